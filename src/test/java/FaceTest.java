import java.lang.reflect.Constructor;
import java.lang.reflect.Field;
import java.lang.reflect.Method;
import java.lang.reflect.Modifier;
import java.util.ArrayList;
import java.util.Arrays;
import java.util.List;
import java.util.TreeSet;

/** The class has the document's face and shows nothing else (rule 1 of LANGUAGE.md). */
public final class FaceTest {
    private static final String[] FACE = {
        "int job(int, int, int)",
        "int sum(int, int, int, int)",
        "int cast(int, int, long)",
        "int untell(int, int)",
        "int hold(int, int, int)",
        "int mark(int, int, int)",
        "int told(int, int, int)",
        "int shadow(int, int, long, int, int)",
        "int fits(int, long)",
        "int count(int)",
        "long find(int, int)",
        "int rank(int, long)",
        "int sure(int, int)",
        "int clash(int)",
        "int best(int) throws IllegalArgumentException, IllegalStateException",
        "long bestOne(int) throws IllegalArgumentException, IllegalStateException",
        "int switches(int, int, long)",
        "long switched(int, int, long, int)",
        "int far(int, int, long, long)",
        "int joined(int, int, long)",
        "int even(int, int, long, boolean)",
        "long turned(int, int, long, int)",
        "int parts(int, int, long, long, int)",
        "int list(int, int, long)",
        "int clear()",
        "int ways()",
        "int ghost(int, int, int) throws IllegalArgumentException",
        "int haunts(int, int, int)",
        "int ghosts(int, int, int)",
        "int keep(int, int, int, long)",
        "int make(int, int, int)",
        "long element(int, int) throws IllegalArgumentException, IllegalStateException",
        "int copy(int, int, int, int, int)",
        "long layer(int, int)",
        "int weight(int) throws IllegalArgumentException, IllegalStateException",
        "int toss(int)",
    };

    private FaceTest() {
    }

    public static void main(String[] args) {
        Class<?> bench = ShadowBench.class;
        Check.due("the class", Modifier.toString(bench.getModifiers()), "public final");
        methods(bench);
        for (Constructor<?> made : bench.getDeclaredConstructors()) {
            Check.due("the constructor", made.toString(), "public ShadowBench()");
        }
        for (Field field : bench.getDeclaredFields()) {
            Check.isTrue(field + " is private", Modifier.isPrivate(field.getModifiers()));
            staticFieldIsFinal(field);
        }
        for (Class<?> inside : bench.getDeclaredClasses()) {
            int shown = inside.getModifiers() & (Modifier.PUBLIC | Modifier.PROTECTED);
            Check.isTrue(inside + " is hidden", shown == 0);
            Check.isTrue(inside + " is static", Modifier.isStatic(inside.getModifiers()));
            for (Field field : inside.getDeclaredFields()) {
                staticFieldIsFinal(field);
            }
        }
        Check.end();
    }

    private static void methods(Class<?> bench) {
        List<String> shown = new ArrayList<>();
        TreeSet<String> names = new TreeSet<>();
        for (Method method : bench.getDeclaredMethods()) {
            if (!Modifier.isPrivate(method.getModifiers())) {
                Check.due(method.getName(), Modifier.toString(method.getModifiers()), "public");
                shown.add(told(method));
                names.add(method.getName());
            }
        }
        Check.due("the face", sorted(shown), sorted(Arrays.asList(FACE)));
        List<Class<?>> all = new ArrayList<>(Arrays.asList(bench.getDeclaredClasses()));
        all.add(bench);
        for (Class<?> one : all) {
            for (Method method : one.getDeclaredMethods()) {
                Check.isTrue(method + " is private and has a name of the face",
                        !Modifier.isPrivate(method.getModifiers())
                                || !names.contains(method.getName()));
                Check.isTrue(method + " takes seven at most", method.getParameterCount() <= 7);
            }
        }
    }

    private static void staticFieldIsFinal(Field field) {
        int modifiers = field.getModifiers();
        Check.isTrue(field + " is final",
                !Modifier.isStatic(modifiers) || Modifier.isFinal(modifiers));
    }

    private static String sorted(List<String> lines) {
        return new TreeSet<>(lines).toString();
    }

    private static String told(Method method) {
        StringBuilder text = new StringBuilder();
        text.append(method.getReturnType().getSimpleName()).append(' ').append(method.getName());
        text.append('(').append(names(method.getParameterTypes())).append(')');
        if (method.getExceptionTypes().length > 0) {
            text.append(" throws ").append(names(method.getExceptionTypes()));
        }
        return text.toString();
    }

    private static String names(Class<?>[] types) {
        List<String> all = new ArrayList<>();
        for (Class<?> type : types) {
            all.add(type.getSimpleName());
        }
        return String.join(", ", all);
    }
}
