import java.lang.reflect.Constructor;
import java.lang.reflect.Field;
import java.lang.reflect.Method;
import java.lang.reflect.Modifier;
import java.util.Arrays;
import java.util.TreeSet;

/** The class has the document's face, and nothing of it can be seen beside. */
public final class FaceTest {
    private static final String[] FACE = {
        "ask(int, int, int, long) int",
        "bound(long, long, long) int throws IllegalArgumentException ArithmeticException IllegalStateException",
        "deliver(int) int",
        "end(int) boolean",
        "lend(int, int, int, int, long) int",
        "lent(int) long throws NoSuchElementException",
        "lose(int) boolean",
        "patient(int, boolean) boolean",
        "person(int, int) int",
        "row(int, int) int",
        "share(int, int, int) long throws NoSuchElementException",
        "sum(int, int) long throws NoSuchElementException",
        "take(int, int, long) int",
        "total(int) int",
        "vouch(int, int) int",
        "waits(int, int) long throws NoSuchElementException",
        "weigh(int, long) boolean",
    };

    public static void main(String[] args) {
        Class<LentBounds> face = LentBounds.class;
        Check.due("the class is public and final", face.getModifiers() & (Modifier.PUBLIC | Modifier.FINAL),
                Modifier.PUBLIC | Modifier.FINAL);
        Check.due("NONE", LentBounds.NONE, -1);
        methods(face);
        fields(face);
        Constructor<?>[] constructors = face.getDeclaredConstructors();
        Check.due("constructors", constructors.length, 1);
        Check.due("it is public", Modifier.isPublic(constructors[0].getModifiers()), true);
        Check.due("it takes nothing", constructors[0].getParameterCount(), 0);
        Check.finish();
    }

    private static void methods(Class<?> face) {
        TreeSet<String> names = new TreeSet<>();
        TreeSet<String> seen = new TreeSet<>();
        for (String method : FACE) {
            names.add(method.substring(0, method.indexOf('(')));
        }
        for (Method method : face.getDeclaredMethods()) {
            if (Modifier.isPublic(method.getModifiers())) {
                String parameters = Arrays.toString(method.getParameterTypes()).replace('[', '(').replace(']', ')');
                seen.add(method.getName() + parameters + " " + method.getReturnType() + thrown(method));
            } else {
                Check.due(method + " is private", Modifier.isPrivate(method.getModifiers()), true);
                Check.due(method + " has a name of its own", names.contains(method.getName()), false);
            }
        }
        Check.due("the methods " + seen, seen.equals(new TreeSet<>(Arrays.asList(FACE))), true);
    }

    private static String thrown(Method method) {
        StringBuilder text = new StringBuilder();
        for (Class<?> kind : method.getExceptionTypes()) {
            text.append(text.length() == 0 ? " throws " : " ").append(kind.getSimpleName());
        }
        return text.toString();
    }

    private static void fields(Class<?> face) {
        for (Field field : face.getDeclaredFields()) {
            boolean constant = field.getName().equals("NONE");
            Check.due(field + " is private, or NONE", constant || Modifier.isPrivate(field.getModifiers()), true);
            Check.due(field + " is no static state",
                    !Modifier.isStatic(field.getModifiers()) || Modifier.isFinal(field.getModifiers()), true);
        }
    }
}
