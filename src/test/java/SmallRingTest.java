/**
 * All promises on the smallest ring: every combination of marks and commands of its three spans,
 * and of failed nodes and commands, is set up, asked for everything, mended span by span and
 * waited out. The program is compared with the model at each step.
 */
public final class SmallRingTest {
    private static final int NODES = 3;
    private static final int SLOTS = 4;
    private static final int[] COMMANDS = {0, 3, 4, 7, 8, 9};
    private static final int SPAN_KINDS = 4 * COMMANDS.length;
    private static final Due due = new Due();

    private final RingProtection ring = new RingProtection();
    private final Model model = new Model();
    private String where = "";

    public static void main(String[] args) {
        int marked = SPAN_KINDS * SPAN_KINDS * SPAN_KINDS;
        for (int kind = 0; kind < marked && due.wrongSoFar() == 0; kind++) {
            new SmallRingTest().marksAndCommands(kind);
        }
        int failed = 8 * COMMANDS.length * COMMANDS.length * COMMANDS.length;
        for (int kind = 0; kind < failed && due.wrongSoFar() == 0; kind++) {
            new SmallRingTest().nodesAndCommands(kind);
        }
        due.end();
    }

    /** Each path there is, once as a normal circuit and once as an extra one. */
    private SmallRingTest() {
        is(2, "reset", ring.reset(NODES, SLOTS), model.reset(NODES, SLOTS));
        for (int node = 0; node < NODES; node++) {
            int next = (node + 1) % NODES;
            add(node, next, true, 0, false);
            add(node, next, false, node + 1, false);
            add(next, node, false, 0, true);
            add(next, node, true, node + 1, true);
        }
    }

    private void add(int first, int second, boolean clockwise, int slot, boolean extra) {
        int got = ring.addCircuit(first, second, clockwise, slot, extra);
        is(3, "addCircuit", got, model.addCircuit(first, second, clockwise, slot, extra));
        due.holds(3, "the circuit finds room", got >= 0);
    }

    private void is(int promise, String what, int got, int want) {
        due.is(promise, where + what, got, want);
    }

    private void marksAndCommands(int kind) {
        where = "marks and commands " + kind + ": ";
        int rest = kind;
        for (int span = 0; span < NODES; span++) {
            failWorking(span, rest % 2 == 1);
            failProtection(span, rest / 2 % 2 == 1);
            command(span, COMMANDS[rest / 4 % COMMANDS.length]);
            rest /= SPAN_KINDS;
        }
        askEverything("all set, ");
        for (int span = 0; span < NODES; span++) {
            failProtection(span, false);
            failWorking(span, false);
            askEverything("span " + span + " mended, ");
        }
        waitItOut();
        for (int span = 0; span < NODES; span++) {
            command(span, 0);
        }
        askEverything("all mended, ");
    }

    private void nodesAndCommands(int kind) {
        where = "nodes and commands " + kind + ": ";
        int rest = kind / 8;
        for (int i = 0; i < NODES; i++) {
            failNode(i, (kind >> i & 1) == 1);
            command(i, COMMANDS[rest % COMMANDS.length]);
            rest /= COMMANDS.length;
        }
        askEverything("all set, ");
        for (int node = 0; node < NODES; node++) {
            failNode(node, false);
            askEverything("node " + node + " mended, ");
        }
        waitItOut();
    }

    private void waitItOut() {
        for (int seconds : new int[] {1, 3, 1}) {
            is(14, "advance", ring.advance(seconds), model.advance(seconds));
            askSpans("after " + seconds + " seconds, ");
        }
    }

    private void failWorking(int span, boolean failed) {
        is(9, "failWorking", ring.failWorking(span, failed), model.failWorking(span, failed));
        askSpans("working mark of span " + span + ", ");
    }

    private void failProtection(int span, boolean failed) {
        is(10, "failProtection", ring.failProtection(span, failed),
            model.failProtection(span, failed));
        askSpans("protection mark of span " + span + ", ");
    }

    private void failNode(int node, boolean failed) {
        is(11, "failNode", ring.failNode(node, failed), model.failNode(node, failed));
        askSpans("mark of node " + node + ", ");
    }

    private void command(int span, int command) {
        is(12, "command", ring.command(span, command), model.command(span, command));
        askSpans("command of span " + span + ", ");
    }

    private void askSpans(String when) {
        for (int span = 0; span < NODES; span++) {
            is(16, when + "request", ring.request(span), model.request(span));
            is(17, when + "switchOf", ring.switchOf(span), model.switchOf(span));
            is(18, when + "restoreTimer", ring.restoreTimer(span), model.restoreTimer(span));
        }
    }

    private void askEverything(String when) {
        for (int i = 0; i < NODES; i++) {
            is(19, when + "segment", ring.segment(i), model.segment(i));
            is(25, when + "squelchedAt", ring.squelchedAt(i), model.squelchedAt(i));
            is(26, when + "deliveredIfCut", ring.deliveredIfCut(i), model.deliveredIfCut(i));
            is(27, when + "deliveredIfNodeFails", ring.deliveredIfNodeFails(i),
                model.deliveredIfNodeFails(i));
        }
        for (int circuit = 0; circuit < 4 * NODES; circuit++) {
            is(20, when + "state", ring.state(circuit), model.state(circuit));
            is(23, when + "hops", ring.hops(circuit), model.hops(circuit));
        }
        for (int state = 0; state <= 5; state++) {
            is(21, when + "circuitsIn", ring.circuitsIn(state), model.circuitsIn(state));
        }
        is(22, when + "deliveredCount", ring.deliveredCount(), model.deliveredCount());
        is(24, when + "averageHops", ring.averageHops(), model.averageHops());
        is(28, when + "worstCut", ring.worstCut(), model.worstCut());
    }
}
