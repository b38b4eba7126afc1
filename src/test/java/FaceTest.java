import java.lang.reflect.Constructor;
import java.lang.reflect.Field;
import java.lang.reflect.Method;
import java.lang.reflect.Modifier;
import java.util.Arrays;
import java.util.Set;
import java.util.TreeSet;
import java.util.stream.Collectors;

/** The public face of the document, and rule 1 of LANGUAGE.md: nothing else can be seen from outside. */
public final class FaceTest {
    private static final String ARGUMENT = " throws IllegalArgumentException";
    private static final Set<String> FACE = new TreeSet<>(Set.of(
            "void bay(int, int, int, int, int, int)" + ARGUMENT,
            "void plug(int, boolean)" + ARGUMENT,
            "int box(int, int, int, int) throws IllegalArgumentException, IllegalStateException",
            "void roll(int)" + ARGUMENT,
            "int plan()",
            "int moves()",
            "int move(int, int) throws IndexOutOfBoundsException, IllegalArgumentException",
            "void hand(int, int) throws IndexOutOfBoundsException, IllegalArgumentException",
            "int replay(int)" + ARGUMENT,
            "int slot(int, int)" + ARGUMENT,
            "int moment(int)" + ARGUMENT,
            "int verify() throws IllegalStateException",
            "int report(int, int)" + ARGUMENT));

    public static void main(String[] args) {
        Check check = new Check("the face");
        Class<?> face = BayStowage.class;
        check.due("modifiers of the class", Modifier.PUBLIC | Modifier.FINAL, face.getModifiers());
        check.due("NONE", -1, BayStowage.NONE);
        methods(check, face);
        constructors(check, face);
        fields(check, face);
        classesInside(check, face);
        check.end();
    }

    private static void methods(Check check, Class<?> face) {
        Set<String> seen = new TreeSet<>();
        Set<String> names = FACE.stream().map(FaceTest::nameIn).collect(Collectors.toSet());
        for (Method method : face.getDeclaredMethods()) {
            if (Modifier.isPrivate(method.getModifiers())) {
                check.isTrue("private " + method.getName() + " has a name of its own",
                        !names.contains(method.getName()));
            } else {
                check.due("modifiers of " + method.getName(), Modifier.PUBLIC, method.getModifiers());
                seen.add(told(method));
            }
        }
        check.isTrue("the face is " + seen, seen.equals(FACE));
    }

    private static String nameIn(String method) {
        return method.substring(method.indexOf(' ') + 1, method.indexOf('('));
    }

    private static String told(Method method) {
        String thrown = names(method.getExceptionTypes());
        return method.getReturnType().getSimpleName() + " " + method.getName()
                + "(" + names(method.getParameterTypes()) + ")" + (thrown.isEmpty() ? "" : " throws " + thrown);
    }

    private static String names(Class<?>[] types) {
        return Arrays.stream(types).map(Class::getSimpleName).collect(Collectors.joining(", "));
    }

    private static void constructors(Check check, Class<?> face) {
        Constructor<?>[] all = face.getDeclaredConstructors();
        check.due("constructors", 1, all.length);
        check.due("modifiers of the constructor", Modifier.PUBLIC, all[0].getModifiers());
        check.due("parameters of the constructor", 0, all[0].getParameterCount());
    }

    private static void fields(Check check, Class<?> face) {
        for (Field field : face.getDeclaredFields()) {
            boolean isNone = field.getName().equals("NONE");
            check.isTrue("field " + field.getName() + " is private or NONE",
                    isNone != Modifier.isPrivate(field.getModifiers()));
            boolean isStatic = Modifier.isStatic(field.getModifiers());
            check.isTrue("static " + field.getName() + " is final",
                    !isStatic || Modifier.isFinal(field.getModifiers()));
        }
    }

    private static void classesInside(Check check, Class<?> face) {
        check.isTrue("at most twelve classes", face.getDeclaredClasses().length < 12);
        for (Class<?> inside : face.getDeclaredClasses()) {
            int modifiers = inside.getModifiers();
            check.isTrue(inside.getName() + " is static", Modifier.isStatic(modifiers));
            check.isTrue(inside.getName() + " is hidden",
                    !Modifier.isPublic(modifiers) && !Modifier.isProtected(modifiers));
            for (Method method : inside.getDeclaredMethods()) {
                boolean named = FACE.stream().anyMatch(told -> nameIn(told).equals(method.getName()));
                check.isTrue(inside.getName() + "." + method.getName() + " has a name of its own", !named);
            }
            for (Field field : inside.getDeclaredFields()) {
                boolean isStatic = Modifier.isStatic(field.getModifiers());
                check.isTrue(inside.getName() + "." + field.getName() + " is no static state",
                        !isStatic || Modifier.isFinal(field.getModifiers()));
            }
        }
    }
}
