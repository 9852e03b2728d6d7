import java.lang.reflect.Constructor;
import java.lang.reflect.Field;
import java.lang.reflect.Method;
import java.lang.reflect.Modifier;
import java.util.Arrays;
import java.util.Set;
import java.util.TreeSet;

/** The class has the document's face, and no other member that is not private. */
public final class FaceTest {
    private static final String[] METHODS = {
        "boolean fields(int)", "boolean sand(int, int)", "boolean groyne(int, int, int)", "boolean mouth(int, int)",
        "boolean wall(int, int)", "boolean feed(int, int)", "boolean number(int)", "int wave(int, int)",
        "int weeks(int)", "int dredge(int, int, int)", "int line(int) throws NoSuchElementException",
        "int look(int, int)", "int border(int, int)", "int without(int, int)",
        "int share(int, int, int) throws NoSuchElementException", "int work(int, int, int, int)",
        "boolean mark(int, int)", "int works()", "int survey(int, int, int, int)", "int fits()", "int count(int)"};

    private static int wrong = 0;

    private static void due(String what, boolean holds) {
        if (!holds) {
            wrong++;
            System.out.println(what);
        }
    }

    private static String written(Method method) {
        StringBuilder text = new StringBuilder(method.getReturnType().getName());
        text.append(' ').append(method.getName()).append('(');
        Class<?>[] parameters = method.getParameterTypes();
        for (int i = 0; i < parameters.length; i++) {
            text.append(i == 0 ? "" : ", ").append(parameters[i].getName());
        }
        text.append(')');
        for (Class<?> thrown : method.getExceptionTypes()) {
            text.append(" throws ").append(thrown.getSimpleName());
        }
        return text.toString();
    }

    private static void checkMethods() {
        Set<String> face = new TreeSet<>();
        Set<String> publicNames = new TreeSet<>();
        Set<String> privateNames = new TreeSet<>();
        for (Method method : ShoreFields.class.getDeclaredMethods()) {
            if (Modifier.isPrivate(method.getModifiers())) {
                privateNames.add(method.getName());
                continue;
            }
            face.add(written(method));
            publicNames.add(method.getName());
            due(method.getName() + " is not public", Modifier.isPublic(method.getModifiers()));
            due(method.getName() + " is static", !Modifier.isStatic(method.getModifiers()));
        }
        Set<String> want = new TreeSet<>(Arrays.asList(METHODS));
        due("the methods are " + face + ", due are " + want, face.equals(want));
        privateNames.retainAll(publicNames);
        due("private methods with public names: " + privateNames, privateNames.isEmpty());
    }

    private static void checkFields() {
        int visible = 0;
        for (Field field : ShoreFields.class.getDeclaredFields()) {
            int modifiers = field.getModifiers();
            due(field.getName() + " is static and not final", !Modifier.isStatic(modifiers) || Modifier.isFinal(modifiers));
            if (!Modifier.isPrivate(modifiers)) {
                visible++;
                due("field " + field.getName(), field.getName().equals("NONE") && field.getType() == int.class);
                due("NONE is not a public constant", Modifier.isPublic(modifiers) && Modifier.isStatic(modifiers));
            }
        }
        due("NONE is missing", visible == 1);
    }

    private static void checkClasses() {
        int modifiers = ShoreFields.class.getModifiers();
        due("the class is not public and final", Modifier.isPublic(modifiers) && Modifier.isFinal(modifiers));
        Constructor<?>[] made = ShoreFields.class.getDeclaredConstructors();
        due("another constructor", made.length == 1 && made[0].getParameterCount() == 0);
        due("the constructor is not public", made.length == 1 && Modifier.isPublic(made[0].getModifiers()));
        for (Class<?> inside : ShoreFields.class.getDeclaredClasses()) {
            int own = inside.getModifiers();
            due(inside + " is visible", !Modifier.isPublic(own) && !Modifier.isProtected(own));
            due(inside + " is not static", Modifier.isStatic(own));
        }
    }

    public static void main(String[] args) {
        checkMethods();
        checkFields();
        checkClasses();
        System.out.println(wrong == 0 ? "the face is as due" : wrong + " faults in the face");
        if (wrong != 0) {
            System.exit(1);
        }
    }
}
