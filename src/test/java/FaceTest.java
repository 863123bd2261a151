import java.lang.reflect.Constructor;
import java.lang.reflect.Field;
import java.lang.reflect.Method;
import java.lang.reflect.Modifier;
import java.util.ArrayList;
import java.util.Arrays;
import java.util.List;

/** The public face of the class is that of the document, and nothing more is to be seen of it. */
public final class FaceTest {
    private static final String[] FACE = {
        "boolean isCovered(int) IndexOutOfBoundsException",
        "boolean isDark()",
        "boolean isLit(int) IndexOutOfBoundsException",
        "boolean isOn(int) IndexOutOfBoundsException",
        "boolean isOnAt(int,int) IndexOutOfBoundsException IllegalArgumentException",
        "boolean isSteady(int) IndexOutOfBoundsException",
        "boolean turnShutter(int) IndexOutOfBoundsException",
        "double meanBeats()",
        "int addBeat(int,int,int) IndexOutOfBoundsException IllegalArgumentException IllegalStateException",
        "int addLamp(boolean) IllegalStateException",
        "int beatsOf(int) IndexOutOfBoundsException",
        "int bestCover(int) IllegalArgumentException",
        "int brightestWithin(int) IllegalArgumentException",
        "int changesSeen()",
        "int collisionsWithin(int,int,int) IndexOutOfBoundsException IllegalArgumentException",
        "int cycleOf(int) IndexOutOfBoundsException",
        "int darkWithin(int) IllegalArgumentException",
        "int lamps()",
        "int litLamps()",
        "int momentsUntilChange(int) IndexOutOfBoundsException",
        "int momentsUntilCollision(int,int) IndexOutOfBoundsException IllegalArgumentException",
        "int momentsUntilDark()",
        "int momentsUntilToldApart(int,int) IndexOutOfBoundsException IllegalArgumentException",
        "int moveBeat(int,int,int) IndexOutOfBoundsException IllegalArgumentException",
        "int now()",
        "int numberOf(int,int) IndexOutOfBoundsException",
        "int offsetOf(int,int) IndexOutOfBoundsException",
        "int pass(int) IllegalArgumentException",
        "int shows(int,int) IndexOutOfBoundsException IllegalArgumentException",
        "int strikesAt(int,int) IndexOutOfBoundsException IllegalArgumentException",
        "int takeBeat(int,int) IndexOutOfBoundsException",
        "long digest()",
    };

    private static final Check CHECK = new Check();

    public static void main(String[] args) {
        Class<?> face = LanternPrimes.class;
        CHECK.due("the class is public and final", face.getModifiers(), Modifier.PUBLIC | Modifier.FINAL);
        CHECK.due("constructors", constructors(face), List.of("public []"));
        CHECK.due("methods", methods(face), List.of(FACE));
        for (Field field : face.getDeclaredFields()) {
            CHECK.due(field.getName() + " is private", Modifier.isPrivate(field.getModifiers()), true);
            if (Modifier.isStatic(field.getModifiers())) {
                CHECK.due(field.getName() + " is final", Modifier.isFinal(field.getModifiers()), true);
            }
        }
        for (Class<?> inside : face.getDeclaredClasses()) {
            CHECK.due(inside + " is private", Modifier.isPrivate(inside.getModifiers()), true);
            CHECK.due(inside + " is static", Modifier.isStatic(inside.getModifiers()), true);
        }
        hiddenNames(face);
        CHECK.end();
    }

    private static List<String> constructors(Class<?> face) {
        List<String> told = new ArrayList<>();
        for (Constructor<?> one : face.getDeclaredConstructors()) {
            told.add(Modifier.toString(one.getModifiers()) + " " + Arrays.toString(one.getParameterTypes()));
        }
        return told;
    }

    private static List<String> methods(Class<?> face) {
        List<String> told = new ArrayList<>();
        for (Method one : face.getDeclaredMethods()) {
            if (!Modifier.isPrivate(one.getModifiers())) {
                told.add(told(one));
            }
        }
        told.sort(null);
        return told;
    }

    private static String told(Method one) {
        StringBuilder told = new StringBuilder(one.getReturnType() + " " + one.getName() + "(");
        for (int i = 0; i < one.getParameterCount(); i++) {
            told.append(i == 0 ? "" : ",").append(one.getParameterTypes()[i]);
        }
        told.append(")");
        for (Class<?> thrown : one.getExceptionTypes()) {
            told.append(" ").append(thrown.getSimpleName());
        }
        return told.toString();
    }

    /** No other method, here or in the classes inside, bears the name of a public one. */
    private static void hiddenNames(Class<?> face) {
        List<String> names = new ArrayList<>();
        for (String each : FACE) {
            names.add(each.substring(each.indexOf(' ') + 1, each.indexOf('(')));
        }
        List<Method> hidden = new ArrayList<>();
        for (Method one : face.getDeclaredMethods()) {
            if (Modifier.isPrivate(one.getModifiers())) {
                hidden.add(one);
            }
        }
        for (Class<?> inside : face.getDeclaredClasses()) {
            hidden.addAll(Arrays.asList(inside.getDeclaredMethods()));
        }
        for (Method one : hidden) {
            CHECK.due(one.getName() + " is the name of a public method", names.contains(one.getName()), false);
        }
    }
}
