import java.lang.reflect.Constructor;
import java.lang.reflect.Field;
import java.lang.reflect.Method;
import java.lang.reflect.Modifier;
import java.util.ArrayList;
import java.util.Arrays;
import java.util.List;
import java.util.TreeSet;

/** The public face: just the members that the document names, with their exceptions, and no others. */
final class FaceTest {
    private static final String[] FACE = {
        "int add(int,int,int,int)",
        "void clear()",
        "int start(boolean) IllegalStateException IllegalArgumentException",
        "int step(int) IndexOutOfBoundsException IllegalStateException UnsupportedOperationException",
        "long state(int)",
        "int holder(int)",
        "int events()",
        "int event(int)",
        "boolean before(int,int)",
        "int race(int)",
        "int partner(int)",
        "int races()",
        "int again(int,boolean)",
    };

    private static String textOf(Method m) {
        List<String> types = new ArrayList<>();
        for (Class<?> type : m.getParameterTypes()) {
            types.add(type.getSimpleName());
        }
        StringBuilder text = new StringBuilder();
        text.append(m.getReturnType().getSimpleName()).append(' ').append(m.getName());
        text.append('(').append(String.join(",", types)).append(')');
        for (Class<?> e : m.getExceptionTypes()) {
            text.append(' ').append(e.getSimpleName());
        }
        return text.toString();
    }

    private static void methods(Check check) {
        TreeSet<String> open = new TreeSet<>();
        TreeSet<String> openNames = new TreeSet<>();
        for (Method m : RaceWatch.class.getDeclaredMethods()) {
            if (!Modifier.isPrivate(m.getModifiers())) {
                open.add(textOf(m));
                openNames.add(m.getName());
                check.due(m.getName() + " is public and of the object",
                        Modifier.isPublic(m.getModifiers()) && !Modifier.isStatic(m.getModifiers()), true);
            }
        }
        check.due("the open methods", open.toString(), new TreeSet<>(Arrays.asList(FACE)).toString());
        for (Method m : RaceWatch.class.getDeclaredMethods()) {
            if (Modifier.isPrivate(m.getModifiers())) {
                check.due("private " + m.getName() + " has a public one's name", openNames.contains(m.getName()), false);
            }
        }
    }

    private static void others(Check check) {
        check.due("public final", Modifier.toString(RaceWatch.class.getModifiers()), "public final");
        check.due("has no package", RaceWatch.class.getPackageName(), "");
        Constructor<?>[] makers = RaceWatch.class.getDeclaredConstructors();
        check.due("constructors", makers.length, 1);
        check.due("the constructor is public", Modifier.isPublic(makers[0].getModifiers()), true);
        check.due("the constructor's parameters", makers[0].getParameterCount(), 0);
        for (Field f : RaceWatch.class.getDeclaredFields()) {
            check.due("field " + f.getName() + " is private", Modifier.isPrivate(f.getModifiers()), true);
        }
        for (Class<?> inside : RaceWatch.class.getDeclaredClasses()) {
            int m = inside.getModifiers();
            check.due(inside.getName() + " is static and not open",
                    Modifier.isStatic(m) && !Modifier.isPublic(m) && !Modifier.isProtected(m), true);
        }
    }

    public static void main(String[] args) {
        Check check = new Check();
        methods(check);
        others(check);
        check.end();
    }
}
