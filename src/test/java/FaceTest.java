import java.lang.reflect.Constructor;
import java.lang.reflect.Field;
import java.lang.reflect.Method;
import java.lang.reflect.Modifier;
import java.util.Arrays;
import java.util.TreeSet;

/** The face is the document's, and nothing but it can be seen from outside. */
public final class FaceTest {
    private static final String[] FACE = {
        "public MetreFractions()",
        "public static final int MetreFractions.UNLIKE",
        "public static final int MetreFractions.FULL",
        "public static final int MetreFractions.LONG",
        "public static final int MetreFractions.OUTSIDE",
        "public int MetreFractions.value(long,long,int)"
            + " throws java.lang.ArithmeticException,java.lang.IllegalArgumentException",
        "public int MetreFractions.add(int,int,boolean) throws java.lang.IndexOutOfBoundsException",
        "public int MetreFractions.times(int,int) throws java.lang.IndexOutOfBoundsException",
        "public int MetreFractions.over(int,int)"
            + " throws java.lang.IndexOutOfBoundsException,java.lang.ArithmeticException",
        "public int MetreFractions.order(int,int) throws java.lang.IndexOutOfBoundsException",
        "public int MetreFractions.round(int,int,int)"
            + " throws java.lang.IndexOutOfBoundsException,java.lang.IllegalArgumentException",
        "public int MetreFractions.prism(int,int,int,int) throws java.lang.IndexOutOfBoundsException",
        "public int MetreFractions.told(int,int)"
            + " throws java.lang.IndexOutOfBoundsException,java.lang.IllegalArgumentException",
        "public int MetreFractions.digit(int,int,int)"
            + " throws java.lang.IndexOutOfBoundsException,java.lang.IllegalArgumentException",
        "public int MetreFractions.clear()",
        "public int MetreFractions.row()",
        "public int MetreFractions.corner(int,int,int) throws java.lang.IndexOutOfBoundsException",
        "public int MetreFractions.at(int,int) throws java.lang.IndexOutOfBoundsException",
        "public int MetreFractions.area(int) throws java.lang.IndexOutOfBoundsException",
        "public int MetreFractions.weight(int) throws java.lang.IllegalArgumentException",
        "public int MetreFractions.noWeights()",
        "public long MetreFractions.share(long,int)"
            + " throws java.lang.IndexOutOfBoundsException,java.lang.IllegalArgumentException",
    };

    public static void main(String[] args) {
        TreeSet<String> seen = new TreeSet<>();
        for (Field field : MetreFractions.class.getDeclaredFields()) {
            note(seen, field.getModifiers(), field.toString());
        }
        for (Constructor<?> constructor : MetreFractions.class.getDeclaredConstructors()) {
            note(seen, constructor.getModifiers(), constructor.toString());
        }
        for (Method method : MetreFractions.class.getDeclaredMethods()) {
            note(seen, method.getModifiers(), method.toString());
        }
        Check check = new Check();
        check.same("the face", seen.toString(), new TreeSet<>(Arrays.asList(FACE)).toString());
        int modifiers = MetreFractions.class.getModifiers();
        check.same("the class", Modifier.toString(modifiers), "public final");
        check.due("UNLIKE", () -> MetreFractions.UNLIKE, -2);
        check.due("FULL", () -> MetreFractions.FULL, -3);
        check.due("LONG", () -> MetreFractions.LONG, -4);
        check.due("OUTSIDE", () -> MetreFractions.OUTSIDE, -5);
        check.end("FaceTest");
    }

    private static void note(TreeSet<String> seen, int modifiers, String member) {
        if (!Modifier.isPrivate(modifiers)) {
            seen.add(member);
        }
    }
}
