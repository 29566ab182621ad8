import java.lang.reflect.Constructor;
import java.lang.reflect.Field;
import java.lang.reflect.Method;
import java.lang.reflect.Modifier;
import java.util.ArrayList;
import java.util.Arrays;
import java.util.HashSet;
import java.util.List;
import java.util.Set;
import java.util.TreeSet;

/** Compares the public face with the one that the document writes, and its classes with the rules 1, 2, 5 and 11. */
public final class FaceTests {

    private static final String[] FACE = {
        "boolean state(int, int, int) IllegalArgumentException IllegalStateException",
        "boolean takeBack(int, int, int) IllegalArgumentException",
        "int triples()",
        "int termAt(int, int, int) IllegalArgumentException IndexOutOfBoundsException",
        "int terms()",
        "int numberOf(int) IllegalArgumentException",
        "int termOf(int) IndexOutOfBoundsException",
        "int count(int, int, int) IllegalArgumentException",
        "int orderFor(boolean, boolean, boolean)",
        "int seek(int, int) IllegalArgumentException IllegalStateException",
        "int forget()",
        "int addPattern(int, int, int) IllegalArgumentException IllegalStateException",
        "int patterns()",
        "int matches(int) IndexOutOfBoundsException",
        "int variables()",
        "int shape()",
        "int joined(int) IndexOutOfBoundsException",
        "int answerByMerging() IllegalStateException",
        "int answerByVariables() IllegalStateException",
        "int answerByLoops() IllegalStateException",
        "int answers()",
        "int answer(int, int) IndexOutOfBoundsException IllegalArgumentException",
        "int termsFor(int) IllegalArgumentException"};

    private static int wrong = 0;

    private static void due(String what, Object got, Object want) {
        if (!got.equals(want)) {
            wrong++;
            System.out.println(what + " is " + got + ", due is " + want);
        }
    }

    private static String written(Method method) {
        StringBuilder text = new StringBuilder();
        text.append(method.getReturnType().getSimpleName()).append(' ').append(method.getName()).append('(');
        for (int k = 0; k < method.getParameterCount(); k++) {
            text.append(k == 0 ? "" : ", ").append(method.getParameterTypes()[k].getSimpleName());
        }
        text.append(')');
        for (Class<?> thrown : method.getExceptionTypes()) {
            text.append(' ').append(thrown.getSimpleName());
        }
        return text.toString();
    }

    private static void lookAtFace() {
        Set<String> methods = new TreeSet<>();
        for (Method method : TripleJoins.class.getDeclaredMethods()) {
            if (!Modifier.isPrivate(method.getModifiers())) {
                methods.add(written(method));
                due("the modifiers of " + method.getName(), Modifier.toString(method.getModifiers()), "public");
            }
        }
        due("the face", methods, new TreeSet<>(Arrays.asList(FACE)));
        due("the class's modifiers", Modifier.toString(TripleJoins.class.getModifiers()), "public final");
        List<String> constructors = new ArrayList<>();
        for (Constructor<?> constructor : TripleJoins.class.getDeclaredConstructors()) {
            constructors.add(constructor.toString());
        }
        due("the constructors", constructors.toString(), "[public TripleJoins()]");
    }

    private static void lookAtFields(Class<?> type) {
        int own = 0;
        for (Field field : type.getDeclaredFields()) {
            boolean isStatic = Modifier.isStatic(field.getModifiers());
            due(field + " is private", Modifier.isPrivate(field.getModifiers()), true);
            due(field + " is final or not static", !isStatic || Modifier.isFinal(field.getModifiers()), true);
            own += isStatic ? 0 : 1;
        }
        due("at most 20 fields in " + type, own <= 20, true);
    }

    private static void lookAtPrivateNames(Class<?> type, boolean isFace) {
        Set<String> names = new HashSet<>();
        for (String line : FACE) {
            names.add(line.substring(line.indexOf(' ') + 1, line.indexOf('(')));
        }
        for (Method method : type.getDeclaredMethods()) {
            if (!isFace || Modifier.isPrivate(method.getModifiers())) {
                due(method + " bears a public name", names.contains(method.getName()), false);
            }
            due(method + " takes at most seven parameters", method.getParameterCount() <= 7, true);
        }
    }

    public static void main(String[] args) {
        lookAtFace();
        lookAtFields(TripleJoins.class);
        lookAtPrivateNames(TripleJoins.class, true);
        Class<?>[] inside = TripleJoins.class.getDeclaredClasses();
        due("at most 12 classes", inside.length < 12, true);
        for (Class<?> type : inside) {
            due("the modifiers of " + type, Modifier.toString(type.getModifiers()), "private static final");
            lookAtFields(type);
            lookAtPrivateNames(type, false);
        }
        System.out.println("FaceTests: " + FACE.length + " methods looked at, " + wrong + " things not as due");
        if (wrong != 0) {
            System.exit(1);
        }
    }
}
