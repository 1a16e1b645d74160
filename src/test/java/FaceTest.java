import java.lang.reflect.Constructor;
import java.lang.reflect.Method;
import java.lang.reflect.Modifier;
import java.util.Arrays;
import java.util.Set;
import java.util.TreeSet;

/** The public face, just as the document writes it, and nothing else that is not private. */
public final class FaceTest {
    private static final String BOUNDS = "IndexOutOfBoundsException";
    private static final String ARGUMENT = "IllegalArgumentException";
    private static final String STATE = "IllegalStateException";

    private static final String[] FACE = {
        "int addLayer(boolean) " + STATE,
        "int setSize(int,int) " + BOUNDS + " " + ARGUMENT,
        "int addPoint(int,int,int,int) " + BOUNDS + " " + ARGUMENT + " " + STATE,
        "int addBox(int,int,int,int,int,int) " + BOUNDS + " " + ARGUMENT + " " + STATE,
        "int addRow(int,int,int,int,int,int) " + BOUNDS + " " + ARGUMENT + " " + STATE,
        "int move(int,int,int) " + BOUNDS + " " + ARGUMENT,
        "int remove(int) " + BOUNDS,
        "int pack(int) " + BOUNDS + " " + ARGUMENT,
        "int things()",
        "int size(int) " + BOUNDS,
        "int of(int,int) " + BOUNDS + " " + ARGUMENT,
        "int nodes(int) " + BOUNDS,
        "int depth(int) " + BOUNDS,
        "int leaf(int,int,int,int) " + BOUNDS + " " + ARGUMENT,
        "int level(int,int) " + BOUNDS + " " + ARGUMENT,
        "int node(int,int,int,int) " + BOUNDS + " " + ARGUMENT,
        "int inBox(int,int,int,int,int) " + BOUNDS + " " + ARGUMENT,
        "int visited(int,int,int,int,int) " + BOUNDS + " " + ARGUMENT,
        "int nearest(int,int,int,int) " + BOUNDS + " " + ARGUMENT,
        "int far(int,int,int,int) " + BOUNDS + " " + ARGUMENT,
        "int visitedFor(int,int,int,int) " + BOUNDS + " " + ARGUMENT,
        "int pairs(int,int,int) " + BOUNDS + " " + ARGUMENT,
        "int visitedPairs(int,int,int) " + BOUNDS + " " + ARGUMENT,
        "int clusters(int,int) " + BOUNDS + " " + ARGUMENT,
        "int greatest(int,int) " + BOUNDS + " " + ARGUMENT,
        "int corner(int,int) " + ARGUMENT + " " + STATE,
        "int clear()",
        "int inFence(int,int) " + BOUNDS + " " + ARGUMENT + " " + STATE,
        "int area()",
        "double fullness(int) " + BOUNDS,
        "int nodesWith(int,int) " + BOUNDS + " " + ARGUMENT,
        "int visitedPacked(int,int,int,int,int) " + BOUNDS + " " + ARGUMENT,
        "long digest()",
    };

    private static String told(Method method) {
        StringBuilder text = new StringBuilder();
        text.append(method.getReturnType()).append(' ').append(method.getName()).append('(');
        for (int i = 0; i < method.getParameterCount(); i++) {
            text.append(i == 0 ? "" : ",").append(method.getParameterTypes()[i]);
        }
        text.append(')');
        for (Class<?> thrown : method.getExceptionTypes()) {
            text.append(' ').append(thrown.getSimpleName());
        }
        return text.toString();
    }

    public static void main(String[] args) {
        Class<?> face = CairnIndex.class;
        Checks.holds("the class is public and final", face.getModifiers() == (Modifier.PUBLIC | Modifier.FINAL));
        Constructor<?>[] constructors = face.getDeclaredConstructors();
        Checks.due("constructors", 1, constructors.length);
        Checks.holds("it is public, without parameters",
                Modifier.isPublic(constructors[0].getModifiers()) && constructors[0].getParameterCount() == 0);

        Set<String> found = new TreeSet<>();
        Set<String> publicNames = new TreeSet<>();
        for (Method method : face.getDeclaredMethods()) {
            if (!Modifier.isPrivate(method.getModifiers())) {
                Checks.due("modifiers of " + method.getName(), Modifier.PUBLIC, method.getModifiers());
                found.add(told(method));
                publicNames.add(method.getName());
            }
        }
        Set<String> due = new TreeSet<>(Arrays.asList(FACE));
        Checks.holds("the methods are " + due + ", not " + found, due.equals(found));
        for (java.lang.reflect.Field field : face.getDeclaredFields()) {
            Checks.holds(field.getName() + " is private", Modifier.isPrivate(field.getModifiers()));
        }
        for (Class<?> inside : face.getDeclaredClasses()) {
            Checks.holds(inside + " is static and not public",
                    Modifier.isStatic(inside.getModifiers()) && !Modifier.isPublic(inside.getModifiers()));
            for (Method method : inside.getDeclaredMethods()) {
                Checks.holds(method.getName() + " is no name of the face", !publicNames.contains(method.getName()));
            }
        }
        for (Method method : face.getDeclaredMethods()) {
            boolean isPrivate = Modifier.isPrivate(method.getModifiers());
            Checks.holds(method.getName() + " bears a name of its own", !isPrivate || !publicNames.contains(method.getName()));
        }
        Checks.end();
    }
}
