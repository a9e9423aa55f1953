import java.lang.reflect.Constructor;
import java.lang.reflect.Field;
import java.lang.reflect.Method;
import java.lang.reflect.Modifier;
import java.util.Arrays;
import java.util.TreeSet;

/** The public face: the members of the document, no others, and LANGUAGE.md's rule 1. */
public final class FaceTest {
    private static final String[] DUE = {
        "public static final int BAD", "public static final int FULL", "public static final int ZERO",
        "public ExactFractions()",
        "public int begin(int)", "public int digit(int,int,int,int)", "public int set(int,int,long)",
        "public int scale(int,boolean,int)", "public int turn(int)", "public int move(int,boolean)",
        "public int bits(int,int)", "public int word(int,int,int)", "public int compare()",
        "public long round(int,boolean)",
    };

    public static void main(String[] args) {
        Check check = new Check("FaceTest");
        Class<?> face = ExactFractions.class;
        check.same("the members that can be seen", visible(face), new TreeSet<>(Arrays.asList(DUE)));
        check.same("the class's modifiers", Modifier.toString(face.getModifiers()), "public final");
        check.same("the class above", face.getSuperclass(), Object.class);
        check.due("BAD", ExactFractions.BAD, -1);
        check.due("FULL", ExactFractions.FULL, -2);
        check.due("ZERO", ExactFractions.ZERO, -3);
        for (Class<?> inside : face.getDeclaredClasses()) {
            int m = inside.getModifiers();
            check.same(inside + " is static", Modifier.isStatic(m), true);
            check.same(inside + " can be seen", Modifier.isPublic(m) || Modifier.isProtected(m), false);
            noNameOfTheFace(check, inside);
        }
        noNameOfTheFace(check, face);
        check.end();
    }

    private static TreeSet<String> visible(Class<?> face) {
        TreeSet<String> found = new TreeSet<>();
        for (Field f : face.getDeclaredFields()) {
            if (!Modifier.isPrivate(f.getModifiers())) {
                found.add(f.toString().replace("ExactFractions.", ""));
            }
        }
        for (Constructor<?> c : face.getDeclaredConstructors()) {
            if (!Modifier.isPrivate(c.getModifiers())) {
                found.add(c.toString());
            }
        }
        for (Method m : face.getDeclaredMethods()) {
            if (!Modifier.isPrivate(m.getModifiers())) {
                found.add(m.toString().replace("ExactFractions.", ""));
            }
        }
        return found;
    }

    private static void noNameOfTheFace(Check check, Class<?> c) {
        TreeSet<String> names = new TreeSet<>();
        for (Method m : ExactFractions.class.getDeclaredMethods()) {
            if (Modifier.isPublic(m.getModifiers())) {
                names.add(m.getName());
            }
        }
        for (Method m : c.getDeclaredMethods()) {
            if (!Modifier.isPublic(m.getModifiers()) && names.contains(m.getName())) {
                check.fail(m + " bears the name of a public method");
            }
        }
    }
}
