import java.lang.reflect.Constructor;
import java.lang.reflect.Field;
import java.lang.reflect.Method;
import java.lang.reflect.Modifier;
import java.util.Set;
import java.util.TreeSet;

/** The public face of the document, to the letter, and nothing beside it. */
public final class FaceTest {
    private static final String[] FACE = {
        "int addPot(int, int, int) IllegalArgumentException IllegalStateException",
        "int tune(int, int) IndexOutOfBoundsException IllegalArgumentException",
        "boolean turnCosy(int) IndexOutOfBoundsException",
        "int pour(int, int, int) IndexOutOfBoundsException IllegalArgumentException",
        "int fill(int) IndexOutOfBoundsException",
        "int mend(int) IndexOutOfBoundsException",
        "int sing(int) IllegalArgumentException",
        "int pots()",
        "int partOf(int) IndexOutOfBoundsException",
        "int pitchOf(int) IndexOutOfBoundsException",
        "int teaOf(int) IndexOutOfBoundsException",
        "int crackOf(int) IndexOutOfBoundsException",
        "boolean sounds(int) IndexOutOfBoundsException",
        "int soundingOf(int) IndexOutOfBoundsException",
        "int beats()",
        "int sounding()",
        "int interval(int, int) IndexOutOfBoundsException",
        "boolean areInAccord(int, int) IndexOutOfBoundsException",
        "int harmony()",
        "int clashes()",
        "int clashesOf(int) IndexOutOfBoundsException",
        "int harshest()",
        "int lowest()",
        "boolean isClear()",
        "int cadences()",
        "int bestTuning(int) IndexOutOfBoundsException",
        "int bestToMute()",
        "int harmonyIn(int) IllegalArgumentException",
        "int beatsUntilSilence()",
        "int beatsUntilCadence()",
        "int greatestAccord()",
        "double meanPitch()",
        "long digest()",
    };

    private FaceTest() {
    }

    public static void main(String[] args) {
        Class<?> face = TeapotChoir.class;
        Checks.due("public and final", Modifier.toString(face.getModifiers()), "public final");
        constructors(face);
        methods(face);
        fields(face);
        Checks.end();
    }

    private static void constructors(Class<?> face) {
        Constructor<?>[] all = face.getDeclaredConstructors();
        Checks.due("constructors", all.length, 1);
        Checks.due("its parameters", all[0].getParameterCount(), 0);
        Checks.due("it is public", Modifier.toString(all[0].getModifiers()), "public");
    }

    private static void methods(Class<?> face) {
        Set<String> shown = new TreeSet<>();
        Set<String> shownNames = new TreeSet<>();
        Set<String> hiddenNames = new TreeSet<>();
        for (Method method : face.getDeclaredMethods()) {
            if (Modifier.isPrivate(method.getModifiers())) {
                hiddenNames.add(method.getName());
            } else {
                shown.add(Modifier.toString(method.getModifiers()) + " " + told(method));
                shownNames.add(method.getName());
            }
        }
        Set<String> want = new TreeSet<>();
        for (String line : FACE) {
            want.add("public " + line);
        }
        Checks.due("methods", shown, want);
        hiddenNames.retainAll(shownNames);
        Checks.due("private methods with a public one's name", hiddenNames, new TreeSet<String>());
    }

    private static String told(Method method) {
        StringBuilder line = new StringBuilder();
        line.append(method.getReturnType().getSimpleName()).append(' ').append(method.getName()).append('(');
        String between = "";
        for (Class<?> type : method.getParameterTypes()) {
            line.append(between).append(type.getSimpleName());
            between = ", ";
        }
        line.append(')');
        for (Class<?> type : method.getExceptionTypes()) {
            line.append(' ').append(type.getSimpleName());
        }
        return line.toString();
    }

    private static void fields(Class<?> face) {
        for (Field field : face.getDeclaredFields()) {
            Checks.due(field.getName() + " is private", Modifier.isPrivate(field.getModifiers()), true);
        }
    }
}
