import java.lang.reflect.Constructor;
import java.lang.reflect.Executable;
import java.lang.reflect.Field;
import java.lang.reflect.Method;
import java.lang.reflect.Modifier;
import java.util.Set;
import java.util.TreeSet;

/** 'The public face' of the document: just these methods, and what they say that they throw. */
public final class FaceTest {
    private static final String ARGUMENT = " IllegalArgumentException";
    private static final String STATE = " IllegalStateException";
    private static final String INDEX = " IndexOutOfBoundsException";
    private static final String[] FACE = {
        "int wind(int,int)" + ARGUMENT,
        "boolean current(int,int)" + ARGUMENT,
        "int helm(int)" + ARGUMENT,
        "int order(char,int,int)" + ARGUMENT + STATE,
        "int belay(int)" + INDEX + " UnsupportedOperationException",
        "char state(int)" + INDEX,
        "boolean callAll(boolean)",
        "int watch()",
        "int free()",
        "int tired(int)" + INDEX,
        "int sick(int)" + INDEX,
        "int stow(boolean,int)" + ARGUMENT + STATE,
        "int left(int)" + INDEX,
        "int jettison() NoSuchElementException",
        "int sail(int)" + ARGUMENT,
        "int minute()",
        "int heading()",
        "int speed()",
        "long east()",
        "long north()",
        "int off()",
        "int force(int)" + INDEX,
        "int spread(int)" + INDEX,
        "int strength(int)" + INDEX,
        "int braced(int)" + INDEX,
        "boolean isSprung(int)" + INDEX,
        "int best()",
        "long noon()",
        "long reckonedEast()",
        "long reckonedNorth()",
        "int lines()",
        "char line(int)" + INDEX,
        "int lineMinute(int)" + INDEX,
        "float setShare()",
        "double meanStrength() ArithmeticException",
        "boolean isSame()"};

    private FaceTest() {
    }

    public static void main(String[] args) {
        Check.same("public and final", SquareRig.class.getModifiers(), Modifier.PUBLIC | Modifier.FINAL);
        Check.same("of nothing else", SquareRig.class.getSuperclass() + " " + SquareRig.class.getInterfaces().length, Object.class + " 0");
        methods();
        constructors();
        noOtherMember();
        noNameTwice();
        Check.end();
    }

    private static void methods() {
        Set<String> due = new TreeSet<>(Set.of(FACE));
        Set<String> found = new TreeSet<>();
        for (Method method : SquareRig.class.getDeclaredMethods()) {
            if (!Modifier.isPrivate(method.getModifiers())) {
                Check.same(method.getName() + " is public, and of an object", method.getModifiers(), Modifier.PUBLIC);
                found.add(method.getReturnType().getSimpleName() + " " + method.getName() + told(method));
            }
        }
        Check.same("the methods", found, due);
    }

    private static String told(Executable one) {
        StringBuilder all = new StringBuilder("(");
        for (Class<?> type : one.getParameterTypes()) {
            all.append(all.length() > 1 ? "," : "").append(type.getSimpleName());
        }
        all.append(")");
        for (Class<?> type : one.getExceptionTypes()) {
            all.append(" ").append(type.getSimpleName());
        }
        return all.toString();
    }

    private static void constructors() {
        Constructor<?>[] all = SquareRig.class.getDeclaredConstructors();
        Check.same("one constructor", all.length, 1);
        Check.same("it is public", all[0].getModifiers(), Modifier.PUBLIC);
        Check.same("it takes and throws nothing", told(all[0]), "()");
    }

    private static void noOtherMember() {
        for (Field field : SquareRig.class.getDeclaredFields()) {
            Check.same(field.getName() + " is private", Modifier.isPrivate(field.getModifiers()), true);
        }
        for (Class<?> inside : SquareRig.class.getDeclaredClasses()) {
            Check.same(inside.getName() + " is static", Modifier.isStatic(inside.getModifiers()), true);
            Check.same(inside.getName() + " is not public", Modifier.isPublic(inside.getModifiers()), false);
        }
    }

    /** LANGUAGE.md, rule 1: no private method bears the name of a public one. */
    private static void noNameTwice() {
        Set<String> names = new TreeSet<>();
        for (Method method : SquareRig.class.getDeclaredMethods()) {
            Check.same(method.getName() + " is there once", names.add(method.getName()), true);
        }
    }
}
