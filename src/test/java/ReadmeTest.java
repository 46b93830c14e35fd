import java.io.File;
import java.lang.reflect.Field;
import java.lang.reflect.Method;
import java.lang.reflect.Modifier;
import java.nio.file.Files;
import java.nio.file.Path;
import java.util.ArrayList;
import java.util.List;

/** README.md: its example answers what it says, and it leaves out no method, error or test. */
public final class ReadmeTest {
    private static int wrong;
    private static String readme = "";
    private static List<String> example = new ArrayList<>();
    private static int line;

    public static void main(String[] args) throws Exception {
        readme = Files.readString(Path.of("README.md"));
        String start = "```java\n";
        int from = readme.indexOf(start) + start.length();
        example = readme.substring(from, readme.indexOf("```", from)).lines().toList();
        theExample();
        theNames();
        theTests();
        System.out.println(wrong == 0 ? "README.md is as due" : wrong + " faults");
        if (wrong != 0) {
            System.exit(1);
        }
    }

    private static void holds(String what, boolean held) {
        if (!held) {
            wrong++;
            System.out.println("does not hold: " + what);
        }
    }

    private static void theExample() throws IllegalAccessException {
        says("RingProtection ring = new RingProtection();", "4 nodes");
        RingProtection ring = new RingProtection();
        int circuit = ring.addCircuit(0, 2, true, 0, false);
        answers("int circuit = ring.addCircuit(0, 2, true, 0, false);", circuit);
        int extra = ring.addCircuit(2, 3, true, 0, true);
        answers("int extra = ring.addCircuit(2, 3, true, 0, true);", extra);
        answers("ring.worstCut();", ring.worstCut());
        answers("ring.save(0);", ring.save(0));
        answers("ring.failWorking(0, true);", ring.failWorking(0, true));
        answers("ring.state(circuit);", ring.state(circuit), "SPAN_PROTECTED");
        answers("ring.failProtection(0, true);", ring.failProtection(0, true));
        answers("ring.state(circuit);", ring.state(circuit), "RING_PROTECTED");
        answers("ring.state(extra);", ring.state(extra), "PREEMPTED");
        answers("ring.hops(circuit);", ring.hops(circuit));
        answers("ring.failProtection(0, false);", ring.failProtection(0, false));
        answers("ring.failWorking(0, false);", ring.failWorking(0, false));
        answers("ring.request(0);", ring.request(0), "WAIT_SPAN");
        answers("ring.restoreTimer(0);", ring.restoreTimer(0));
        answers("ring.advance(5);", ring.advance(5));
        answers("ring.switchOf(0);", ring.switchOf(0), "NO_SWITCH");
        answers("ring.addCircuit(0, 1, true, 0, false);",
            ring.addCircuit(0, 1, true, 0, false), "SLOT_IN_USE");
        answers("ring.restore(0);", ring.restore(0));
        holds("the example has " + line + " lines", example.size() == line);
    }

    /** The next line of the example is this statement, with such a comment. */
    private static void says(String statement, String comment) {
        String text = line < example.size() ? example.get(line) : "";
        line++;
        String[] parts = text.split(" *// ", 2);
        boolean same = parts.length == 2 && parts[0].equals(statement)
            && (parts[1] + " ").matches(comment + "[ ,:].*");
        holds("line " + line + " of the example is " + statement + " // " + comment, same);
    }

    private static void answers(String statement, int got) {
        says(statement, Integer.toString(got));
    }

    private static void answers(String statement, int got, String constant)
        throws IllegalAccessException {
        int due = Integer.MIN_VALUE;
        for (Field field : RingProtection.class.getFields()) {
            due = field.getName().equals(constant) ? field.getInt(null) : due;
        }
        holds(statement + " answers " + constant, got == due);
        says(statement, constant);
    }

    private static void theNames() throws IllegalAccessException {
        for (Method method : RingProtection.class.getDeclaredMethods()) {
            if (Modifier.isPublic(method.getModifiers())) {
                holds("it names " + method.getName(),
                    readme.contains("`" + method.getName() + "`"));
            }
        }
        for (Field field : RingProtection.class.getFields()) {
            if (field.getInt(null) < 0) {
                holds("it names " + field.getName(),
                    readme.contains("`" + field.getName() + "`"));
            }
        }
    }

    private static void theTests() {
        File[] files = new File("src/test/java").listFiles();
        for (File file : files == null ? new File[0] : files) {
            String name = file.getName().replace(".java", "");
            holds("it names " + name, readme.contains("`" + name + "`"));
        }
    }
}
