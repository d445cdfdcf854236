import java.lang.reflect.Constructor;
import java.lang.reflect.Field;
import java.lang.reflect.Method;
import java.lang.reflect.Modifier;
import java.util.ArrayList;
import java.util.Arrays;
import java.util.List;
import java.util.TreeSet;

/** The class has the document's face, and shows nothing beside it. */
public final class FaceTest {
    private static final String A = " throws IllegalArgumentException";
    private static final String S = " throws IllegalStateException";
    private static final String I = " throws IndexOutOfBoundsException";
    private static final String AS = A + ", IllegalStateException";
    private static final String IS = I + ", IllegalStateException";
    private static final List<String> FACE = List.of(
            "int type(char)" + AS, "int clearText()", "int clearTemplate()",
            "int addMessage(int, boolean)" + AS, "int messages()", "int setForms(int)" + AS,
            "int setBound(int)" + A, "int merge()" + S, "int entries()", "int active()",
            "int find(int, boolean)" + A, "int translate(int, int)" + IS, "void confirm(int)" + IS,
            "int state(int)" + I, "boolean isMarked(int)" + I, "int slots(int)" + I,
            "char textAt(int, int)" + I, "char translationAt(int, int, int)" + I,
            "int lengthOf(int, int)" + I, "int fault(int)" + I, "int count(int)" + A,
            "int likeness(int, int)" + I, "int guess(int, boolean)" + AS,
            "int guessByAll(int, boolean)" + AS, "void keep(int)" + I, "int restore(int)" + IS,
            "int mergeKept()" + S);

    public static void main(String[] args) {
        Checks.begin("the face");
        Class<?> face = Catalogmend.class;
        Checks.due("modifiers of the class", Modifier.toString(face.getModifiers()), "public final");
        Constructor<?>[] constructors = face.getDeclaredConstructors();
        Checks.due("constructors", constructors.length, 1);
        Checks.due("the constructor", constructors[0].toString(), "public Catalogmend()");

        List<String> shown = new ArrayList<>();
        List<String> names = new ArrayList<>();
        for (Method method : face.getDeclaredMethods()) {
            if (!Modifier.isPrivate(method.getModifiers())) {
                shown.add(told(method));
                names.add(method.getName());
                Checks.due("modifiers of " + method.getName(), Modifier.toString(method.getModifiers()), "public");
            }
        }
        Checks.due("methods", new TreeSet<>(shown).toString(), new TreeSet<>(FACE).toString());
        Checks.due("as many methods", shown.size(), FACE.size());
        dueNoPrivateName(face, names);

        List<String> constants = new ArrayList<>();
        for (Field field : face.getDeclaredFields()) {
            if (!Modifier.isPrivate(field.getModifiers())) {
                constants.add(field.toString());
            }
        }
        Checks.due("constants", new TreeSet<>(constants).toString(), new TreeSet<>(List.of(
                "public static final int Catalogmend.NONE", "public static final int Catalogmend.OPEN",
                "public static final int Catalogmend.GUESSED", "public static final int Catalogmend.DONE"))
                .toString());
        for (Class<?> inside : face.getDeclaredClasses()) {
            Checks.due(inside + " is static", Modifier.isStatic(inside.getModifiers()), true);
            Checks.due(inside + " is hidden", Modifier.isPublic(inside.getModifiers()), false);
            dueNoPrivateName(inside, names);
        }
        System.exit(Checks.end());
    }

    private static void dueNoPrivateName(Class<?> where, List<String> names) {
        for (Method method : where.getDeclaredMethods()) {
            boolean hidden = !Modifier.isPublic(method.getModifiers());
            Checks.due(where + "." + method.getName() + " bears a public one's name",
                    hidden && names.contains(method.getName()), false);
        }
        for (Field field : where.getDeclaredFields()) {
            boolean stays = !Modifier.isStatic(field.getModifiers()) || Modifier.isFinal(field.getModifiers());
            Checks.due("static state " + field, stays, true);
        }
    }

    private static String told(Method method) {
        StringBuilder told = new StringBuilder(method.getReturnType().getSimpleName());
        told.append(' ').append(method.getName()).append('(');
        told.append(String.join(", ", Arrays.stream(method.getParameterTypes()).map(Class::getSimpleName).toList()));
        told.append(')');
        List<String> thrown = Arrays.stream(method.getExceptionTypes()).map(Class::getSimpleName).toList();
        return told.append(thrown.isEmpty() ? "" : " throws " + String.join(", ", thrown)).toString();
    }
}
