import java.lang.reflect.Constructor;
import java.lang.reflect.Field;
import java.lang.reflect.Method;
import java.lang.reflect.Modifier;
import java.util.ArrayList;
import java.util.List;
import java.util.TreeSet;

/** The public face is that of the document, to the letter, and nothing else can be seen. */
public final class FaceTest {
    private static final String I = "IndexOutOfBoundsException";
    private static final String A = "IllegalArgumentException";
    private static final String S = "IllegalStateException";
    private static final String[] METHODS = {
        "int house() " + S,
        "int bottles(int,int) " + I + " " + A + " " + S,
        "int lend(int,int) " + I + " " + S,
        "int ask(int,int) " + I + " " + S,
        "int want(int,int) " + I + " " + S,
        "int drink(int) " + I + " " + S,
        "int pass(int) " + A + " " + S,
        "int set(int,int) " + I + " " + A,
        "int append(int) " + A + " " + S,
        "int clearBuffer()",
        "int firstError()",
        "int run() " + A,
        "int keep(int) " + A,
        "int goBack(int) " + A + " " + S,
        "int undo() " + S,
        "int kind(int,int) " + I + " " + A,
        "int houseOf(int,int,int) " + I + " " + A,
        "int letter(int,int) " + A,
        "int count(int) " + A,
        "int setting(int) " + I,
        "int ifPassed(int,int) " + A,
        "int stillIn()",
        "int hidden()",
        "int neediest()",
        "double arrivedShare()",
        "long digest()",
    };

    private FaceTest() {
    }

    private static String names(Class<?>[] classes, String between) {
        List<String> names = new ArrayList<>();
        for (Class<?> c : classes) {
            names.add(c.getSimpleName());
        }
        return String.join(between, names);
    }

    private static String describe(Method m) {
        String line = Modifier.toString(m.getModifiers()) + " " + m.getReturnType().getSimpleName() + " "
                + m.getName() + "(" + names(m.getParameterTypes(), ",") + ") "
                + names(m.getExceptionTypes(), " ");
        return line.trim();
    }

    private static void constructorAndConstant(Class<?> face) {
        Constructor<?>[] makers = face.getDeclaredConstructors();
        Check.same("constructors", 1, makers.length);
        Check.same("parameters", 0, makers[0].getParameterCount());
        Check.same("exceptions of the constructor", 0, makers[0].getExceptionTypes().length);
        Check.same("the constructor is public", Modifier.PUBLIC, makers[0].getModifiers());
        for (Field f : face.getDeclaredFields()) {
            if (f.getName().equals("NONE")) {
                Check.same("NONE is public static final",
                        Modifier.PUBLIC | Modifier.STATIC | Modifier.FINAL, f.getModifiers());
                Check.same("NONE is an int", 1, f.getType() == int.class ? 1 : 0);
            } else if (!Modifier.isPrivate(f.getModifiers())) {
                Check.fail("the field " + f.getName() + " can be seen");
            }
        }
        Check.same("NONE", -1, CorkPermits.NONE);
    }

    public static void main(String[] args) {
        Class<?> face = CorkPermits.class;
        Check.same("final", 1, Modifier.isFinal(face.getModifiers()) ? 1 : 0);
        Check.same("public", 1, Modifier.isPublic(face.getModifiers()) ? 1 : 0);
        TreeSet<String> publicNames = new TreeSet<>();
        TreeSet<String> due = new TreeSet<>();
        for (String method : METHODS) {
            due.add("public " + method);
        }
        TreeSet<String> got = new TreeSet<>();
        for (Method m : face.getDeclaredMethods()) {
            if (!Modifier.isPrivate(m.getModifiers()) && !m.isSynthetic()) {
                got.add(describe(m));
                publicNames.add(m.getName());
            }
        }
        if (!due.equals(got)) {
            Check.fail("methods are " + got + ", due are " + due);
        }
        for (Method m : face.getDeclaredMethods()) {
            if (Modifier.isPrivate(m.getModifiers()) && publicNames.contains(m.getName())) {
                Check.fail("a private method bears the name " + m.getName());
            }
        }
        constructorAndConstant(face);
        for (Class<?> inside : face.getDeclaredClasses()) {
            Check.same(inside.getName() + " is static", 1,
                    Modifier.isStatic(inside.getModifiers()) ? 1 : 0);
            Check.same(inside.getName() + " is public", 0,
                    Modifier.isPublic(inside.getModifiers()) ? 1 : 0);
            for (Method m : inside.getDeclaredMethods()) {
                if (publicNames.contains(m.getName())) {
                    Check.fail("a method inside bears the name " + m.getName());
                }
            }
        }
        Check.end();
    }
}
