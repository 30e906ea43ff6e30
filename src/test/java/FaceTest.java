import java.lang.reflect.Constructor;
import java.lang.reflect.Field;
import java.lang.reflect.Method;
import java.lang.reflect.Modifier;
import java.util.Arrays;
import java.util.Set;
import java.util.TreeSet;
import java.util.stream.Collectors;

/** The public face of the document, and what LANGUAGE.md says of members and classes. */
public final class FaceTest {
    private static final String[] METHODS = {
        "int table(int,int,int)", "int set(int,int,int)", "int copy(int,int,int,int,int)", "int drop(int)",
        "int clear(int)", "int add(int,int,int)", "int take(int,int)", "int join(int,int,int)", "int quarter(int,int)",
        "int letter(int,int,int)", "int terms(int)", "long number(int,int)", "int power(int,int,int)",
        "int same(int,int)", "int product(int,int,int)", "long digest(int)", "int pulse(int,int,int)",
        "int cycled(int,int,int,int)", "int delay(int,int,int)", "int round(int)", "int end()", "int store(int,int)",
        "int back()", "int kind(int)", "int is(int,int)", "int spins(int)", "int ask(int,int)", "int trace(int)",
        "int run()", "int told(int)", "int count(int)", "int status()"};
    private static final int MOST_CLASSES = 12, MOST_FIELDS = 20, MOST_PARAMETERS = 7;
    private static final Due due = new Due("FaceTest");

    public static void main(String[] args) throws IllegalAccessException {
        constants();
        due.holds("the class is public and final",
                Modifier.isPublic(SpinBench.class.getModifiers()) && Modifier.isFinal(SpinBench.class.getModifiers()));
        constructors();
        methods();
        classesInside();
        due.end();
    }

    private static void constants() throws IllegalAccessException {
        String[] names = {"NONE", "BAD", "STATE", "FULL"};
        Set<String> seen = new TreeSet<>();
        for (Field field : SpinBench.class.getDeclaredFields()) {
            int modifiers = field.getModifiers();
            if (Modifier.isPrivate(modifiers)) {
                due.holds("static " + field.getName() + " is final",
                        !Modifier.isStatic(modifiers) || Modifier.isFinal(modifiers));
                continue;
            }
            seen.add(field.getName());
            due.holds(field.getName() + " is a public constant of int", Modifier.isPublic(modifiers)
                    && Modifier.isStatic(modifiers) && Modifier.isFinal(modifiers) && field.getType() == int.class);
            due.is(field.getName(), field.getInt(null), -1000000 - Arrays.asList(names).indexOf(field.getName()));
        }
        due.holds("the constants are those of the document", seen.equals(new TreeSet<>(Arrays.asList(names))));
    }

    private static void constructors() {
        Constructor<?>[] all = SpinBench.class.getDeclaredConstructors();
        due.is("constructors", all.length, 1);
        due.holds("it is public", Modifier.isPublic(all[0].getModifiers()));
        due.holds("it takes an int", Arrays.equals(all[0].getParameterTypes(), new Class<?>[] {int.class}));
    }

    private static String face(Method method) {
        return method.getReturnType() + " " + method.getName() + "(" + Arrays.stream(method.getParameterTypes())
                .map(Class::getName).collect(Collectors.joining(",")) + ")";
    }

    private static void methods() {
        Set<String> seen = new TreeSet<>();
        Set<String> names = new TreeSet<>();
        for (Method method : SpinBench.class.getDeclaredMethods()) {
            if (!Modifier.isPrivate(method.getModifiers())) {
                due.holds(method + " is public, not static",
                        Modifier.isPublic(method.getModifiers()) && !Modifier.isStatic(method.getModifiers()));
                seen.add(face(method));
                names.add(method.getName());
            }
        }
        due.holds("the methods are those of the document: " + seen, seen.equals(new TreeSet<>(Arrays.asList(METHODS))));
        ownNames(SpinBench.class, names, true);
        for (Class<?> inside : SpinBench.class.getDeclaredClasses()) {
            ownNames(inside, names, false);
        }
    }

    private static void ownNames(Class<?> owner, Set<String> names, boolean outer) {
        for (Method method : owner.getDeclaredMethods()) {
            due.holds(method + " takes seven at most", method.getParameterCount() <= MOST_PARAMETERS);
            if (!outer || Modifier.isPrivate(method.getModifiers())) {
                due.holds(method + " has a name of its own", !names.contains(method.getName()));
            }
        }
    }

    private static void classesInside() {
        Class<?>[] inside = SpinBench.class.getDeclaredClasses();
        due.holds("the classes are few", inside.length + 1 <= MOST_CLASSES);
        fewFields(SpinBench.class);
        for (Class<?> one : inside) {
            int modifiers = one.getModifiers();
            due.holds(one + " is static", Modifier.isStatic(modifiers));
            due.holds(one + " is not public", !Modifier.isPublic(modifiers) && !Modifier.isProtected(modifiers));
            due.is(one + " has classes inside", one.getDeclaredClasses().length, 0);
            fewFields(one);
        }
    }

    private static void fewFields(Class<?> owner) {
        int fields = 0;
        for (Field field : owner.getDeclaredFields()) {
            fields += Modifier.isStatic(field.getModifiers()) ? 0 : 1;
        }
        due.holds(owner + " has few fields", fields <= MOST_FIELDS);
    }
}
