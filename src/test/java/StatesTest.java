/** Promises 20 to 25: circuit states, delivery, hops and squelching. */
public final class StatesTest {
    private static final int[] NO_CIRCUITS = {-1, 7, 15, 16, 32, Integer.MIN_VALUE, Integer.MAX_VALUE};
    private static final Due due = new Due();

    public static void main(String[] args) {
        wrongNumbers();
        undisturbed();
        spanProtected();
        ringProtected();
        squelched();
        squelchedBeforeLost();
        lostWithoutSwitch();
        lostInTheSegment();
        notLostBeyondTheSegment();
        lostBesideRingSwitches();
        lostBeforeSpanProtected();
        ringBeforeSpan();
        extraCircuits();
        extraBesideLockout();
        circuitsIn();
        deliveredCount();
        hops();
        averageHops();
        squelchedAt();
        due.end();
    }

    private static RingProtection ringOf(int nodes) {
        RingProtection ring = new RingProtection();
        ring.reset(nodes, 4);
        return ring;
    }

    private static void cut(RingProtection ring, int... spans) {
        for (int span : spans) {
            ring.failWorking(span, true);
            ring.failProtection(span, true);
        }
    }

    private static void wrongNumbers() {
        RingProtection ring = ringOf(6);
        ring.addCircuit(0, 1, true, 0, false);
        for (int circuit : NO_CIRCUITS) {
            due.is(20, "state " + circuit, ring.state(circuit), RingProtection.NO_SUCH_CIRCUIT);
            due.is(23, "hops " + circuit, ring.hops(circuit), RingProtection.NO_SUCH_CIRCUIT);
        }
        int[] noStates = {-1, 6, 32, Integer.MIN_VALUE, Integer.MAX_VALUE};
        for (int state : noStates) {
            due.is(21, "circuitsIn " + state, ring.circuitsIn(state), RingProtection.BAD_VALUE);
        }
        int[] noNodes = {-1, 6, 32, Integer.MIN_VALUE, Integer.MAX_VALUE};
        for (int node : noNodes) {
            due.is(25, "squelchedAt " + node, ring.squelchedAt(node),
                RingProtection.NO_SUCH_NODE);
        }
    }

    private static void undisturbed() {
        RingProtection ring = ringOf(5);
        ring.addCircuit(0, 2, true, 0, false);
        due.is(20, "quiet ring", ring.state(0), RingProtection.UNDISTURBED);
        ring.failWorking(2, true);
        due.is(20, "a failure elsewhere", ring.state(0), RingProtection.UNDISTURBED);
        ring.failProtection(2, true);
        due.is(20, "a ring switch elsewhere", ring.state(0), RingProtection.UNDISTURBED);
        ring.failProtection(0, true);
        due.is(20, "protection down on the path", ring.state(0), RingProtection.UNDISTURBED);
    }

    private static void spanProtected() {
        RingProtection ring = ringOf(5);
        ring.addCircuit(4, 1, true, 0, false);
        ring.addCircuit(4, 1, false, 0, false);
        ring.failWorking(4, true);
        due.is(20, "failed span on the path", ring.state(0), RingProtection.SPAN_PROTECTED);
        due.is(20, "the other way round", ring.state(1), RingProtection.UNDISTURBED);
        ring.failWorking(4, false);
        due.is(20, "while it waits", ring.state(0), RingProtection.SPAN_PROTECTED);
        ring.advance(5);
        due.is(20, "after the wait", ring.state(0), RingProtection.UNDISTURBED);
        ring.command(0, RingProtection.MANUAL_SPAN);
        due.is(20, "by command", ring.state(0), RingProtection.SPAN_PROTECTED);
    }

    private static void ringProtected() {
        RingProtection ring = ringOf(6);
        ring.addCircuit(0, 3, true, 0, false);
        ring.addCircuit(3, 0, true, 0, false);
        cut(ring, 1);
        due.is(20, "cut on the path", ring.state(0), RingProtection.RING_PROTECTED);
        due.is(20, "cut elsewhere", ring.state(1), RingProtection.UNDISTURBED);
        ring.failNode(1, true);
        due.is(20, "a node between the ends", ring.state(0), RingProtection.RING_PROTECTED);
        ring.reset(6, 4);
        ring.addCircuit(0, 3, true, 0, false);
        ring.command(2, RingProtection.FORCED_RING);
        due.is(20, "by command, with nothing down", ring.state(0), RingProtection.RING_PROTECTED);
    }

    private static void squelched() {
        RingProtection ring = ringOf(6);
        ring.addCircuit(0, 3, true, 0, false);
        ring.addCircuit(0, 3, false, 0, false);
        ring.addCircuit(3, 5, true, 1, false);
        cut(ring, 1, 4);
        due.is(20, "ends in different segments", ring.state(0), RingProtection.SQUELCHED);
        due.is(20, "the other way round too", ring.state(1), RingProtection.SQUELCHED);
        due.is(20, "from 3 to 5", ring.state(2), RingProtection.SQUELCHED);
        ring.reset(6, 4);
        ring.addCircuit(2, 4, true, 0, false);
        ring.failNode(2, true);
        due.is(20, "an end has failed", ring.state(0), RingProtection.SQUELCHED);
    }

    private static void squelchedBeforeLost() {
        RingProtection ring = ringOf(6);
        ring.addCircuit(0, 3, true, 0, false);
        ring.failWorking(0, true);
        due.is(20, "span", ring.state(0), RingProtection.SPAN_PROTECTED);
        cut(ring, 1);
        due.is(20, "a lone ring switch leaves span 0 down", ring.state(0), RingProtection.LOST);
        cut(ring, 4);
        due.is(20, "squelching comes first", ring.state(0), RingProtection.SQUELCHED);
    }

    private static void lostWithoutSwitch() {
        RingProtection ring = ringOf(6);
        ring.addCircuit(0, 3, true, 0, false);
        ring.addCircuit(3, 0, true, 0, false);
        ring.failWorking(1, true);
        ring.command(1, RingProtection.LOCKOUT);
        due.is(20, "locked out span", ring.state(0), RingProtection.LOST);
        due.is(20, "off that span", ring.state(1), RingProtection.UNDISTURBED);
        ring.command(1, RingProtection.NO_REQUEST);
        ring.failProtection(1, true);
        ring.failProtection(5, true);
        due.is(20, "no ring switch beside a lockout", ring.state(0), RingProtection.LOST);
        ring.failProtection(5, false);
        due.is(20, "ring switch", ring.state(0), RingProtection.RING_PROTECTED);
    }

    private static void lostInTheSegment() {
        RingProtection ring = ringOf(6);
        ring.addCircuit(0, 4, true, 0, false);
        cut(ring, 0, 2);
        due.is(20, "two cuts", ring.state(0), RingProtection.RING_PROTECTED);
        ring.failWorking(3, true);
        due.is(20, "span 3 has no switch", ring.switchOf(3), RingProtection.NO_SWITCH);
        due.is(20, "down within the segment", ring.state(0), RingProtection.LOST);
        ring.failWorking(3, false);
        ring.failWorking(5, true);
        due.is(20, "down off the path", ring.state(0), RingProtection.RING_PROTECTED);
    }

    private static void notLostBeyondTheSegment() {
        RingProtection ring = ringOf(6);
        ring.addCircuit(0, 3, true, 0, false);
        ring.addCircuit(1, 2, true, 1, false);
        cut(ring, 0, 2);
        ring.failWorking(1, true);
        due.is(20, "span 1 has no switch", ring.switchOf(1), RingProtection.NO_SWITCH);
        due.is(20, "down beyond the switches", ring.state(0), RingProtection.RING_PROTECTED);
        due.is(20, "a circuit over that span alone", ring.state(1), RingProtection.LOST);
    }

    private static void lostBesideRingSwitches() {
        RingProtection ring = ringOf(8);
        ring.addCircuit(3, 5, true, 0, false);
        ring.addCircuit(7, 6, true, 1, false);
        cut(ring, 0, 6);
        due.is(20, "no switch on its path", ring.state(0), RingProtection.UNDISTURBED);
        due.is(20, "from 7 to 6", ring.state(1), RingProtection.SQUELCHED);
        ring.failWorking(4, true);
        due.is(20, "down without a switch", ring.state(0), RingProtection.LOST);
    }

    private static void lostBeforeSpanProtected() {
        RingProtection ring = ringOf(6);
        ring.addCircuit(0, 2, true, 0, false);
        ring.addCircuit(0, 1, true, 1, false);
        ring.command(0, RingProtection.FORCED_SPAN);
        cut(ring, 1);
        due.is(20, "no ring switch beside a forced span", ring.switchOf(1),
            RingProtection.NO_SWITCH);
        due.is(20, "over both", ring.state(0), RingProtection.LOST);
        due.is(20, "over the first", ring.state(1), RingProtection.SPAN_PROTECTED);
    }

    private static void ringBeforeSpan() {
        RingProtection ring = ringOf(6);
        ring.addCircuit(0, 3, true, 0, false);
        ring.command(0, RingProtection.FORCED_RING);
        ring.command(1, RingProtection.FORCED_SPAN);
        due.is(20, "the forced span gets nothing", ring.switchOf(1), RingProtection.NO_SWITCH);
        due.is(20, "ring", ring.state(0), RingProtection.RING_PROTECTED);
        ring.command(0, RingProtection.NO_REQUEST);
        due.is(20, "span", ring.state(0), RingProtection.SPAN_PROTECTED);
    }

    private static void extraCircuits() {
        RingProtection ring = ringOf(6);
        ring.addCircuit(0, 3, true, 0, true);
        due.is(20, "quiet ring", ring.state(0), RingProtection.UNDISTURBED);
        ring.failWorking(4, true);
        due.is(20, "span switch elsewhere", ring.state(0), RingProtection.UNDISTURBED);
        ring.failWorking(2, true);
        due.is(20, "span switch on the path", ring.state(0), RingProtection.PREEMPTED);
        ring.failProtection(1, true);
        due.is(20, "preempted before lost", ring.state(0), RingProtection.PREEMPTED);
        ring.failWorking(2, false);
        due.is(20, "the wait preempts too", ring.state(0), RingProtection.PREEMPTED);
        ring.advance(5);
        due.is(20, "protection down", ring.state(0), RingProtection.LOST);
        ring.failProtection(1, false);
        due.is(20, "protection up", ring.state(0), RingProtection.UNDISTURBED);
        ring.failWorking(4, false);
        ring.failProtection(4, true);
        due.is(20, "protection down elsewhere", ring.state(0), RingProtection.UNDISTURBED);
        ring.failWorking(4, true);
        due.is(20, "ring switch elsewhere", ring.state(0), RingProtection.PREEMPTED);
        ring.failNode(1, true);
        due.is(20, "ring switch and protection down", ring.state(0), RingProtection.PREEMPTED);
    }

    private static void extraBesideLockout() {
        RingProtection ring = ringOf(6);
        ring.addCircuit(0, 3, true, 0, true);
        ring.command(5, RingProtection.LOCKOUT);
        ring.failWorking(1, true);
        ring.command(1, RingProtection.LOCKOUT);
        due.is(20, "working down, no switch", ring.state(0), RingProtection.UNDISTURBED);
        ring.failNode(3, true);
        due.is(20, "its end has failed, no switch", ring.state(0), RingProtection.LOST);
    }

    private static void circuitsIn() {
        RingProtection ring = ringOf(6);
        due.is(21, "no circuits", ring.circuitsIn(0), 0);
        ring.addCircuit(0, 1, true, 0, false);
        ring.addCircuit(1, 2, true, 0, false);
        ring.addCircuit(1, 2, true, 0, true);
        ring.addCircuit(4, 5, true, 0, true);
        ring.addCircuit(2, 3, true, 0, true);
        ring.failWorking(1, true);
        ring.failProtection(2, true);
        due.is(21, "undisturbed", ring.circuitsIn(0), 0b01001);
        due.is(21, "span protected", ring.circuitsIn(1), 0b00010);
        due.is(21, "ring protected", ring.circuitsIn(2), 0);
        due.is(21, "squelched", ring.circuitsIn(3), 0);
        due.is(21, "lost", ring.circuitsIn(4), 0b10000);
        due.is(21, "preempted", ring.circuitsIn(5), 0b00100);
        ring.failProtection(2, false);
        cut(ring, 1);
        due.is(21, "ring protected after a cut", ring.circuitsIn(2), 0b00010);
        due.is(21, "preempted after a cut", ring.circuitsIn(5), 0b11100);
        cut(ring, 3);
        due.is(21, "squelched after two cuts", ring.circuitsIn(3), 0b00010);
        ring.reset(8, 4);
        for (int i = 0; i < 16; i++) {
            ring.addCircuit(i % 8, (i + 1) % 8, true, i / 8, false);
        }
        due.is(21, "sixteen", ring.circuitsIn(0), 0xFFFF);
    }

    private static void deliveredCount() {
        RingProtection ring = ringOf(6);
        due.is(22, "no circuits", ring.deliveredCount(), 0);
        ring.addCircuit(0, 1, true, 0, false);
        ring.addCircuit(1, 2, true, 0, false);
        ring.addCircuit(1, 3, true, 0, true);
        ring.addCircuit(4, 5, true, 0, true);
        due.is(22, "quiet ring", ring.deliveredCount(), 4);
        ring.failWorking(1, true);
        due.is(22, "one preempted", ring.deliveredCount(), 3);
        ring.command(1, RingProtection.LOCKOUT);
        due.is(22, "one lost", ring.deliveredCount(), 3);
        ring.command(1, RingProtection.NO_REQUEST);
        cut(ring, 1);
        due.is(22, "both extra ones preempted", ring.deliveredCount(), 2);
        cut(ring, 4);
        due.is(22, "and one squelched", ring.deliveredCount(), 1);
    }

    private static void hops() {
        RingProtection ring = ringOf(6);
        ring.addCircuit(0, 3, true, 0, false);
        ring.addCircuit(0, 5, true, 1, false);
        ring.addCircuit(0, 5, false, 1, false);
        ring.addCircuit(4, 0, true, 0, true);
        due.is(23, "undisturbed", ring.hops(0), 3);
        due.is(23, "undisturbed and longer", ring.hops(1), 5);
        due.is(23, "undisturbed and short", ring.hops(2), 1);
        due.is(23, "extra", ring.hops(3), 2);
        ring.failWorking(1, true);
        due.is(23, "span protected", ring.hops(0), 3);
        cut(ring, 1);
        due.is(23, "one cut: 2 there and 5 around", ring.hops(0), 7);
        due.is(23, "one cut: 4 there and 5 around", ring.hops(1), 9);
        due.is(23, "one cut off the path", ring.hops(2), 1);
        due.is(23, "preempted", ring.hops(3), RingProtection.NONE);
        cut(ring, 3);
        due.is(23, "squelched", ring.hops(0), RingProtection.NONE);
        due.is(23, "two cuts: 0 and 4 of the path, 0, 4 and 5 of the ring", ring.hops(1), 5);
        due.is(23, "two cuts off the path", ring.hops(2), 1);
        ring.failWorking(4, true);
        due.is(23, "lost", ring.hops(1), RingProtection.NONE);
        ring.reset(6, 4);
        ring.addCircuit(0, 3, true, 0, false);
        cut(ring, 0, 2);
        due.is(23, "both cuts at the ends", ring.hops(0), 3);
        ring.reset(6, 4);
        ring.addCircuit(5, 3, true, 0, false);
        cut(ring, 5, 1);
        due.is(23, "span 0 lies beyond the cuts", ring.hops(0), 4);
        ring.reset(3, 1);
        ring.addCircuit(0, 1, true, 0, false);
        ring.failNode(2, true);
        due.is(23, "the only span left", ring.hops(0), 1);
    }

    private static void averageHops() {
        RingProtection ring = ringOf(6);
        due.is(24, "no circuits", ring.averageHops(), RingProtection.NONE);
        ring.addCircuit(0, 1, true, 0, false);
        due.is(24, "one", ring.averageHops(), 100);
        ring.addCircuit(1, 3, true, 0, false);
        due.is(24, "1 and 2", ring.averageHops(), 150);
        ring.addCircuit(3, 5, true, 0, true);
        due.is(24, "1, 2 and 2, rounded down", ring.averageHops(), 166);
        ring.failWorking(3, true);
        due.is(24, "the extra one does not count", ring.averageHops(), 150);
        cut(ring, 0);
        due.is(24, "5 and 2", ring.averageHops(), 350);
        ring.removeCircuit(1);
        due.is(24, "5 alone", ring.averageHops(), 500);
        cut(ring, 3);
        due.is(24, "none delivered", ring.averageHops(), RingProtection.NONE);
    }

    private static void squelchedAt() {
        RingProtection ring = ringOf(6);
        ring.addCircuit(0, 3, true, 0, false);
        ring.addCircuit(0, 3, false, 0, false);
        ring.addCircuit(0, 5, true, 1, false);
        ring.addCircuit(5, 3, false, 2, false);
        ring.addCircuit(1, 2, true, 0, true);
        cut(ring, 1);
        for (int node = 0; node < 6; node++) {
            due.is(25, "one switch, node " + node, ring.squelchedAt(node), 0);
        }
        cut(ring, 3);
        due.is(25, "circuit 2 is ring protected", ring.state(2), RingProtection.RING_PROTECTED);
        due.is(25, "node 0", ring.squelchedAt(0), 0);
        due.is(25, "node 1", ring.squelchedAt(1), 0b0001);
        due.is(25, "node 2", ring.squelchedAt(2), 0b0001);
        due.is(25, "node 3", ring.squelchedAt(3), 0b1010);
        due.is(25, "node 4", ring.squelchedAt(4), 0b1010);
        due.is(25, "node 5", ring.squelchedAt(5), 0);
        cut(ring, 5);
        due.is(25, "three cuts, node 5", ring.squelchedAt(5), 0b0010);
        due.is(25, "three cuts, node 0", ring.squelchedAt(0), 0b0010);
        due.is(25, "three cuts, node 1", ring.squelchedAt(1), 0b0101);
        due.is(25, "three cuts, node 4", ring.squelchedAt(4), 0b1110);
    }
}
