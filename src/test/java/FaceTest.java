import java.lang.reflect.Constructor;
import java.lang.reflect.Field;
import java.lang.reflect.Method;
import java.lang.reflect.Modifier;
import java.util.Set;
import java.util.TreeSet;

/** The public face, and that nothing else is seen from outside (LANGUAGE.md, rules 1 and 5). */
final class FaceTest {
    private static final String INDEX = "IndexOutOfBoundsException";
    private static final String ARGUMENT = "IllegalArgumentException";
    private static final String STATE = "IllegalStateException";

    private FaceTest() {
    }

    public static void main(String[] args) {
        Class<?> face = FlagChips.class;
        Check.holds("public and final", Modifier.isPublic(face.getModifiers()) && Modifier.isFinal(face.getModifiers()));
        Check.holds("no class above and no interface",
                face.getSuperclass() == Object.class && face.getInterfaces().length == 0);
        Check.holds("no package", face.getPackageName().isEmpty());
        constructors(face);
        methods(face);
        fields(face);
        for (Class<?> inside : face.getDeclaredClasses()) {
            int marks = inside.getModifiers();
            Check.holds(inside.getName() + " is static and not public",
                    Modifier.isStatic(marks) && !Modifier.isPublic(marks) && !Modifier.isProtected(marks));
        }
        Check.end();
    }

    private static void constructors(Class<?> face) {
        Constructor<?>[] made = face.getDeclaredConstructors();
        Check.due("constructors", made.length, 1);
        Check.holds("the public constructor takes and throws nothing", Modifier.isPublic(made[0].getModifiers())
                && made[0].getParameterCount() == 0 && made[0].getExceptionTypes().length == 0);
    }

    private static void methods(Class<?> face) {
        Set<String> due = new TreeSet<>();
        add(due, "int setCodes(int)", ARGUMENT);
        add(due, "int hill(int,int)", INDEX, ARGUMENT, STATE);
        add(due, "int say(int,boolean)", INDEX, STATE);
        add(due, "int hush(int)", INDEX);
        add(due, "int setDelay(int,int)", INDEX, ARGUMENT);
        add(due, "int setStrength(int,int)", INDEX, ARGUMENT);
        add(due, "int setStorm(int,int)", INDEX, ARGUMENT);
        add(due, "int chip(int,int)", INDEX);
        add(due, "int sky(int)", ARGUMENT);
        add(due, "int hear(int,int)", INDEX, ARGUMENT);
        add(due, "int word(int,int,int)", INDEX);
        add(due, "int about(int,int)", INDEX);
        add(due, "int count(int)", INDEX);
        add(due, "int alike(int,int,int)", INDEX, ARGUMENT);
        add(due, "int shift(int,int)", INDEX);
        add(due, "int advise(int)", ARGUMENT);
        add(due, "int would(int,int)", INDEX, ARGUMENT);
        add(due, "int tune(int)", INDEX);
        add(due, "double mean()");
        add(due, "long digest()");

        Set<String> got = new TreeSet<>();
        Set<String> publicNames = new TreeSet<>();
        Set<String> privateNames = new TreeSet<>();
        for (Method method : face.getDeclaredMethods()) {
            if (Modifier.isPrivate(method.getModifiers())) {
                privateNames.add(method.getName());
                continue;
            }
            Check.holds(method + " is public and no more than that", method.getModifiers() == Modifier.PUBLIC);
            publicNames.add(method.getName());
            got.add(told(method));
        }
        Check.holds("the methods " + got + " are those due, " + due, got.equals(due));
        privateNames.retainAll(publicNames);
        Check.holds("no private method has a public one's name, but " + privateNames, privateNames.isEmpty());
    }

    private static void fields(Class<?> face) {
        for (Field field : face.getDeclaredFields()) {
            int marks = field.getModifiers();
            Check.holds(field + " is private", Modifier.isPrivate(marks));
            Check.holds(field + " is final if static", Modifier.isFinal(marks) || !Modifier.isStatic(marks));
        }
    }

    private static void add(Set<String> due, String signature, String... thrown) {
        due.add(signature + " throws " + String.join(",", thrown));
    }

    private static String told(Method method) {
        return method.getReturnType().getName() + " " + method.getName() + "("
                + names(method.getParameterTypes()) + ") throws " + names(method.getExceptionTypes());
    }

    private static String names(Class<?>[] types) {
        StringBuilder text = new StringBuilder();
        for (Class<?> type : types) {
            text.append(text.length() == 0 ? "" : ",").append(type.getSimpleName());
        }
        return text.toString();
    }
}
