import java.lang.reflect.Constructor;
import java.lang.reflect.Field;
import java.lang.reflect.Method;
import java.lang.reflect.Modifier;
import java.util.Arrays;
import java.util.Set;
import java.util.TreeSet;

/** The public face: just the members that the document shows. */
final class FaceTest {
    private static final String[] METHODS = {
        "void edge(int,int) IllegalArgumentException",
        "void link(int,int,int) IllegalStateException,IllegalArgumentException",
        "void cut(int,int) IllegalArgumentException",
        "void notice(int,int) IllegalStateException,IllegalArgumentException",
        "int step(int) IllegalStateException,IllegalArgumentException",
        "boolean settled() ",
        "int mask(int,int) IllegalArgumentException",
        "int distance(int,int) IllegalArgumentException",
        "int alternate(int,int) IllegalArgumentException",
        "int stored(int,int) IllegalArgumentException",
        "void ingress(int,int) IllegalArgumentException",
        "int join(int,int,int) IllegalStateException,IllegalArgumentException",
        "void report(int) IllegalStateException,IllegalArgumentException",
        "int carry(int) IllegalArgumentException",
        "int bits(int) IllegalArgumentException",
        "int send(int,int) IllegalStateException,IllegalArgumentException",
        "int sendBits(int,int) IllegalStateException,IllegalArgumentException",
        "int move(int) IllegalStateException,IllegalArgumentException",
        "int delivered(int) IllegalArgumentException",
        "int crossings(int) IllegalArgumentException",
        "int count(int) ",
    };

    private FaceTest() {
    }

    public static void main(String[] args) {
        Check.yes("public", Modifier.isPublic(BitNet.class.getModifiers()));
        Check.yes("final", Modifier.isFinal(BitNet.class.getModifiers()));
        methods();
        constructors();
        fields();
        Check.end();
    }

    private static void methods() {
        Set<String> due = new TreeSet<>(Arrays.asList(METHODS));
        Set<String> names = new TreeSet<>();
        for (String method : METHODS) {
            names.add(method.substring(method.indexOf(' ') + 1, method.indexOf('(')));
        }
        for (Method method : BitNet.class.getDeclaredMethods()) {
            if (!Modifier.isPrivate(method.getModifiers())) {
                String told = tell(method);
                Check.yes(told + " is in the document", due.remove(told));
            } else {
                Check.no(method.getName() + " is private and bears a public name",
                        names.contains(method.getName()));
            }
        }
        Check.yes("no method is missing: " + due, due.isEmpty());
    }

    private static String tell(Method method) {
        return method.getReturnType().getSimpleName() + " " + method.getName()
                + "(" + tell(method.getParameterTypes()) + ") " + tell(method.getExceptionTypes());
    }

    private static String tell(Class<?>[] types) {
        StringBuilder told = new StringBuilder();
        for (Class<?> type : types) {
            told.append(told.length() == 0 ? "" : ",").append(type.getSimpleName());
        }
        return told.toString();
    }

    private static void constructors() {
        Constructor<?>[] constructors = BitNet.class.getDeclaredConstructors();
        Check.same("constructors", constructors.length, 1);
        Check.yes("public", Modifier.isPublic(constructors[0].getModifiers()));
        Check.same("without parameters", constructors[0].getParameterCount(), 0);
    }

    private static void fields() {
        for (Field field : BitNet.class.getDeclaredFields()) {
            Check.yes(field.getName() + " is private", Modifier.isPrivate(field.getModifiers()));
            Check.yes(field.getName() + " is final", Modifier.isFinal(field.getModifiers()));
        }
    }
}
