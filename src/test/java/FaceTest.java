import java.lang.reflect.Constructor;
import java.lang.reflect.Field;
import java.lang.reflect.Method;
import java.lang.reflect.Modifier;
import java.util.Arrays;
import java.util.TreeSet;

/** The class shows the document's face and nothing else. */
public final class FaceTest {
    private static int wrong = 0;

    private static void due(String what, Object got, Object want) {
        if (!got.equals(want)) {
            wrong++;
            System.out.println(what + " is " + got + ", due is " + want);
        }
    }

    private static String told(Method m) {
        StringBuilder text = new StringBuilder();
        text.append(m.getReturnType().getName()).append(' ').append(m.getName()).append('(');
        for (Class<?> type : m.getParameterTypes()) {
            text.append(type.getName()).append(' ');
        }
        text.append(')');
        for (Class<?> type : m.getExceptionTypes()) {
            text.append(' ').append(type.getSimpleName());
        }
        return text.toString();
    }

    private static void methods() {
        TreeSet<String> got = new TreeSet<>();
        for (Method m : StreetGraph.class.getDeclaredMethods()) {
            if (Modifier.isPublic(m.getModifiers()) && !Modifier.isStatic(m.getModifiers())) {
                got.add(told(m));
            } else {
                due("private " + m.getName(), Modifier.isPrivate(m.getModifiers()), true);
            }
        }
        due("the methods", got, new TreeSet<>(Arrays.asList(
                "int piece(int int long long ) ArithmeticException",
                "int turn(int int boolean )",
                "int stop(int int long )",
                "long way(int int long )",
                "int step(int )",
                "int gate(int long long )",
                "int change(int long )",
                "long table(int int )",
                "int piece2(int ) ArrayIndexOutOfBoundsException",
                "boolean service(int int )")));
    }

    private static void fields() {
        TreeSet<String> got = new TreeSet<>();
        for (Field f : StreetGraph.class.getDeclaredFields()) {
            int how = f.getModifiers();
            if (Modifier.isPublic(how) && Modifier.isStatic(how) && Modifier.isFinal(how)) {
                got.add(f.getType().getName() + " " + f.getName());
            } else {
                due("private " + f.getName(), Modifier.isPrivate(how), true);
                due("no static state in " + f.getName(), !Modifier.isStatic(how) || Modifier.isFinal(how), true);
            }
        }
        due("the constants", got,
                new TreeSet<>(Arrays.asList("int NONE", "int UNKNOWN", "int OUTSIDE", "int STATE", "int ROOM")));
    }

    public static void main(String[] args) {
        due("final", Modifier.isFinal(StreetGraph.class.getModifiers()), true);
        due("public", Modifier.isPublic(StreetGraph.class.getModifiers()), true);
        Constructor<?>[] made = StreetGraph.class.getDeclaredConstructors();
        due("constructors", made.length, 1);
        due("a public constructor", Modifier.isPublic(made[0].getModifiers()), true);
        due("its parameters", made[0].getParameterCount(), 0);
        methods();
        fields();
        due("NONE", StreetGraph.NONE, -1);
        due("UNKNOWN", StreetGraph.UNKNOWN, -11);
        due("OUTSIDE", StreetGraph.OUTSIDE, -12);
        due("STATE", StreetGraph.STATE, -13);
        due("ROOM", StreetGraph.ROOM, -14);
        System.out.println(wrong == 0 ? "the face is as due" : wrong + " parts of the face are not as due");
        if (wrong != 0) {
            System.exit(1);
        }
    }
}
