import java.io.IOException;
import java.lang.reflect.Constructor;
import java.lang.reflect.Field;
import java.lang.reflect.Method;
import java.lang.reflect.Modifier;
import java.nio.file.Files;
import java.nio.file.Path;
import java.util.Arrays;
import java.util.Set;
import java.util.TreeSet;

/** The public face of the document, and the rules of LANGUAGE.md that can be seen from outside. */
public final class FaceTest {
    private static final String[] METHODS = {
        "reset int int", "addCircuit int int boolean int boolean", "removeCircuit int",
        "circuitCount", "freeSlot int int boolean boolean", "circuitsOn int", "pathLength int",
        "failWorking int boolean", "failProtection int boolean", "failNode int boolean",
        "command int int", "setRestoreTime int", "advance int", "clock", "request int",
        "switchOf int", "restoreTimer int", "segment int", "state int", "circuitsIn int",
        "deliveredCount", "hops int", "averageHops", "squelchedAt int", "deliveredIfCut int",
        "deliveredIfNodeFails int", "worstCut", "save int", "restore int"};
    private static final String[] CONSTANTS = {
        "NO_SUCH_NODE -1", "NO_SUCH_SPAN -2", "NO_SUCH_CIRCUIT -3", "BAD_VALUE -4",
        "SAME_NODE -5", "SLOT_IN_USE -6", "TOO_MANY_CIRCUITS -7", "NOT_SAVED -8", "NONE -9",
        "NO_REQUEST 0", "WAIT_SPAN 1", "WAIT_RING 2", "MANUAL_SPAN 3", "MANUAL_RING 4",
        "FAIL_SPAN 5", "FAIL_RING 6", "FORCED_SPAN 7", "FORCED_RING 8", "LOCKOUT 9",
        "NO_SWITCH 0", "SPAN_SWITCH 1", "RING_SWITCH 2", "UNDISTURBED 0", "SPAN_PROTECTED 1",
        "RING_PROTECTED 2", "SQUELCHED 3", "LOST 4", "PREEMPTED 5"};
    private static final String[] FORBIDDEN_WORDS = {
        "throw", "throws", "try", "catch", "finally", "synchronized", "assert", "package",
        "protected", "native", "volatile", "Objects", "Random", "Thread", "Runtime",
        "Collections"};
    private static int wrong;

    public static void main(String[] args) throws Exception {
        theClass();
        theMethods();
        theConstants();
        theClassesInside();
        theSource();
        System.out.println(wrong == 0 ? "the face is as due" : wrong + " faults");
        if (wrong != 0) {
            System.exit(1);
        }
    }

    private static void holds(String what, boolean held) {
        if (!held) {
            wrong++;
            System.out.println("does not hold: " + what);
        }
    }

    private static void theClass() {
        int modifiers = RingProtection.class.getModifiers();
        holds("public and final", Modifier.isPublic(modifiers) && Modifier.isFinal(modifiers));
        Constructor<?>[] constructors = RingProtection.class.getDeclaredConstructors();
        holds("one public constructor without parameters", constructors.length == 1
            && Modifier.isPublic(constructors[0].getModifiers())
            && constructors[0].getParameterCount() == 0);
    }

    private static void theMethods() {
        Set<String> seen = new TreeSet<>();
        Set<String> publicNames = new TreeSet<>();
        Method[] methods = RingProtection.class.getDeclaredMethods();
        for (Method method : methods) {
            if (!Modifier.isPrivate(method.getModifiers())) {
                StringBuilder text = new StringBuilder(method.getName());
                for (Class<?> parameter : method.getParameterTypes()) {
                    text.append(' ').append(parameter.getName());
                }
                seen.add(text.toString());
                publicNames.add(method.getName());
                holds(text + " is public, not static and answers an int",
                    Modifier.isPublic(method.getModifiers())
                        && !Modifier.isStatic(method.getModifiers())
                        && method.getReturnType() == int.class);
            }
        }
        holds("the methods of the face and no others: " + seen,
            seen.equals(new TreeSet<>(Arrays.asList(METHODS))));
        for (Method method : methods) {
            holds("the private name " + method.getName() + " is none of the face",
                !Modifier.isPrivate(method.getModifiers())
                    || !publicNames.contains(method.getName()));
        }
    }

    private static void theConstants() throws IllegalAccessException {
        Set<String> seen = new TreeSet<>();
        for (Field field : RingProtection.class.getDeclaredFields()) {
            int modifiers = field.getModifiers();
            if (!Modifier.isPrivate(modifiers)) {
                holds(field.getName() + " is a public constant", Modifier.isPublic(modifiers)
                    && Modifier.isStatic(modifiers) && Modifier.isFinal(modifiers)
                    && field.getType() == int.class);
                seen.add(field.getName() + " " + field.getInt(null));
            }
        }
        holds("the constants of the face and no others: " + seen,
            seen.equals(new TreeSet<>(Arrays.asList(CONSTANTS))));
    }

    private static void theClassesInside() {
        Class<?>[] inside = RingProtection.class.getDeclaredClasses();
        holds("at most twelve classes", inside.length <= 12);
        for (Class<?> one : inside) {
            int modifiers = one.getModifiers();
            holds(one + " is static and not public", Modifier.isStatic(modifiers)
                && !Modifier.isPublic(modifiers) && !Modifier.isProtected(modifiers));
            holds(one + " has at most twenty fields", one.getDeclaredFields().length <= 20);
            for (Field field : one.getDeclaredFields()) {
                holds(field + " is not static", !Modifier.isStatic(field.getModifiers()));
            }
            for (Method method : one.getDeclaredMethods()) {
                holds(method + " has at most seven parameters", method.getParameterCount() <= 7);
                holds(method + " has a name that is none of the face",
                    !namesOfTheFace().contains(method.getName()));
            }
        }
    }

    private static Set<String> namesOfTheFace() {
        Set<String> names = new TreeSet<>();
        for (String method : METHODS) {
            names.add(method.split(" ")[0]);
        }
        return names;
    }

    private static void theSource() throws IOException {
        String source = Files.readString(Path.of("src/main/java/RingProtection.java"));
        for (int i = 0; i < source.length(); i++) {
            if (source.charAt(i) > 126) {
                holds("plain signs alone, at " + i, false);
            }
        }
        String code = source.replaceAll("(?s)/\\*.*?\\*/", " ").replaceAll("//[^\n]*", " ");
        for (String word : FORBIDDEN_WORDS) {
            holds("no " + word, !code.matches("(?s).*\\b" + word + "\\b.*"));
        }
        holds("no lambda", !code.contains("->"));
        holds("no method reference", !code.contains("::"));
        holds("no function that throws", !code.contains("Exact("));
        holds("of System arraycopy alone", !code.matches("(?s).*\\bSystem\\b(?!\\.arraycopy).*"));
        holds("imports of the list alone",
            !code.matches("(?s).*\\bimport (?!java\\.util\\.(ArrayList|List|Arrays|Iterator);).*"));
    }
}
