import java.lang.reflect.Constructor;
import java.lang.reflect.Field;
import java.lang.reflect.Method;
import java.lang.reflect.Modifier;
import java.util.Arrays;
import java.util.Set;
import java.util.TreeSet;
import java.util.stream.Collectors;

/** The face is that of the document, and nothing but the private parts stands beside it. */
public final class FaceTest {
    private static final String[] METHODS = {"write(int)", "wipe()", "fault()", "lay()", "staff(int,int)",
        "customer(int,int)", "quarrel(int,int)", "woken()", "pass(int)", "supper(int)", "settle(int,int)", "lull(int)",
        "undo()", "behind(int,int)", "ham(int)", "suppers(int)", "apart(int,int)", "ask(int)", "see(int,int,boolean)",
        "forget()", "law(int,int)", "did(int)", "dogs(int,int,int)", "year(int,int,int)", "keep()", "back()",
        "count(int)"};

    private static int wrong = 0;

    private static void same(String what, Object got, Object want) {
        if (!got.equals(want)) {
            wrong++;
            System.out.println(what + ": " + got + ", due is " + want);
        }
    }

    private static String told(Method m) {
        return m.getName() + Arrays.stream(m.getParameterTypes()).map(Class::getName)
            .collect(Collectors.joining(",", "(", ")"));
    }

    private static void methods() {
        Set<String> open = new TreeSet<>();
        Set<String> names = new TreeSet<>();
        for (Method m : SleepersShop.class.getDeclaredMethods()) {
            if (!Modifier.isPrivate(m.getModifiers())) {
                open.add(told(m));
                names.add(m.getName());
                same("answer of " + m.getName(), m.getReturnType(), int.class);
                same("public, and no more: " + m.getName(), m.getModifiers(), Modifier.PUBLIC);
            }
        }
        same("methods", open, new TreeSet<>(Arrays.asList(METHODS)));
        for (Method m : SleepersShop.class.getDeclaredMethods()) {
            if (Modifier.isPrivate(m.getModifiers())) {
                same("a private method named as a public one: " + m.getName(), names.contains(m.getName()), false);
            }
        }
    }

    private static void classesInside() {
        Set<String> names = Arrays.stream(METHODS).map(m -> m.substring(0, m.indexOf('('))).collect(Collectors.toSet());
        Class<?>[] inside = SleepersShop.class.getDeclaredClasses();
        same("some twelve classes at most", inside.length < 12, true);
        for (Class<?> c : inside) {
            same("neither public nor protected: " + c, c.getModifiers() & (Modifier.PUBLIC | Modifier.PROTECTED), 0);
            same("static: " + c, Modifier.isStatic(c.getModifiers()), true);
            same("some twenty fields: " + c, c.getDeclaredFields().length <= 20, true);
            for (Method m : c.getDeclaredMethods()) {
                same("a method inside named as a public one: " + m, names.contains(m.getName()), false);
            }
        }
    }

    private static void fields() {
        Set<String> open = new TreeSet<>();
        for (Field f : SleepersShop.class.getDeclaredFields()) {
            if (!Modifier.isPrivate(f.getModifiers())) {
                open.add(Modifier.toString(f.getModifiers()) + " " + f.getType() + " " + f.getName());
            }
            same("a static field is final: " + f.getName(),
                Modifier.isStatic(f.getModifiers()) && !Modifier.isFinal(f.getModifiers()), false);
        }
        same("constants", open, new TreeSet<>(Arrays.asList("public static final int BAD", "public static final int NO",
            "public static final int FULL", "public static final int NONE")));
    }

    public static void main(String[] args) {
        same("the class", SleepersShop.class.getModifiers(), Modifier.PUBLIC | Modifier.FINAL);
        Constructor<?>[] made = SleepersShop.class.getDeclaredConstructors();
        same("constructors", made.length, 1);
        same("its arguments", made[0].getParameterCount(), 0);
        same("the constructor", made[0].getModifiers(), Modifier.PUBLIC);
        methods();
        fields();
        classesInside();
        System.out.println("the face: " + wrong + " not as due");
        if (wrong != 0) {
            System.exit(1);
        }
    }
}
