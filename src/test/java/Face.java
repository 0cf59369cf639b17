/** The calls of the document's face: what is asked of the class can then be asked of the oracle too. */
interface Face {
    int value(long above, long below, int unit);

    int add(int a, int b, boolean less);

    int times(int a, int b);

    int over(int a, int b);

    int order(int a, int b);

    int round(int a, int rule, int steps);

    int prism(int a, int b, int c, int h);

    int told(int a, int what);

    int digit(int a, int part, int i);

    int clear();

    int row();

    int corner(int row, int place, int height);

    int at(int row, int place);

    int area(int row);

    int weight(int w);

    int noWeights();

    long share(long whole, int k);
}
