/** Promises 26 to 28: what would be delivered after a cut or a node failure. */
public final class PlanningTest {
    private static final Due due = new Due();

    public static void main(String[] args) {
        wrongNumbers();
        quietRing();
        besideLockout();
        besideCut();
        besideForcedSpan();
        besideWait();
        besideFailedNode();
        worstOfShortCircuits();
        noCircuits();
        planningChangesNothing();
        due.end();
    }

    /** Five nodes; circuit 0 from 0 to 2, an extra and a normal one from 3 to 4. */
    private static RingProtection ring() {
        RingProtection ring = new RingProtection();
        ring.reset(5, 2);
        ring.addCircuit(0, 2, true, 0, false);
        ring.addCircuit(3, 4, true, 0, true);
        ring.addCircuit(3, 4, true, 0, false);
        return ring;
    }

    private static void cut(RingProtection ring, int span) {
        ring.failWorking(span, true);
        ring.failProtection(span, true);
    }

    private static void cutsLeave(String what, RingProtection ring, int... delivered) {
        for (int span = 0; span < delivered.length; span++) {
            due.is(26, what + ", span " + span, ring.deliveredIfCut(span), delivered[span]);
        }
    }

    private static void nodesLeave(String what, RingProtection ring, int... delivered) {
        for (int node = 0; node < delivered.length; node++) {
            due.is(27, what + ", node " + node, ring.deliveredIfNodeFails(node), delivered[node]);
        }
    }

    private static void wrongNumbers() {
        RingProtection ring = ring();
        int[] none = {-1, 5, 8, 32, Integer.MIN_VALUE, Integer.MAX_VALUE};
        for (int number : none) {
            due.is(26, "span " + number, ring.deliveredIfCut(number),
                RingProtection.NO_SUCH_SPAN);
            due.is(27, "node " + number, ring.deliveredIfNodeFails(number),
                RingProtection.NO_SUCH_NODE);
        }
    }

    private static void quietRing() {
        RingProtection ring = ring();
        cutsLeave("quiet ring", ring, 2, 2, 2, 2, 2);
        nodesLeave("quiet ring", ring, 1, 2, 1, 1, 1);
        due.is(28, "all the same", ring.worstCut(), 0);
    }

    private static void besideLockout() {
        RingProtection ring = ring();
        ring.command(4, RingProtection.LOCKOUT);
        cutsLeave("lockout", ring, 2, 2, 3, 1, 3);
        nodesLeave("lockout", ring, 2, 2, 2, 1, 1);
        due.is(28, "lockout", ring.worstCut(), 3);
        ring.removeCircuit(1);
        due.is(28, "the smallest of three", ring.worstCut(), 0);
        ring.removeCircuit(0);
        due.is(28, "span 3 alone", ring.worstCut(), 3);
    }

    private static void besideCut() {
        RingProtection ring = ring();
        cut(ring, 1);
        cutsLeave("cut", ring, 2, 2, 1, 0, 1);
        nodesLeave("cut", ring, 1, 2, 1, 0, 0);
        due.is(28, "cut", ring.worstCut(), 3);
        ring.removeCircuit(2);
        due.is(28, "the smallest of three cuts", ring.worstCut(), 2);
    }

    private static void besideForcedSpan() {
        RingProtection ring = ring();
        ring.command(2, RingProtection.FORCED_SPAN);
        cutsLeave("forced span", ring, 2, 2, 2, 1, 3);
        due.is(28, "forced span", ring.worstCut(), 3);
    }

    private static void besideWait() {
        RingProtection ring = ring();
        ring.failWorking(3, true);
        ring.failWorking(3, false);
        due.is(26, "now", ring.deliveredCount(), 2);
        cutsLeave("wait", ring, 2, 2, 2, 2, 2);
        due.is(26, "still now", ring.deliveredCount(), 2);
        ring.command(4, RingProtection.LOCKOUT);
        cutsLeave("wait and lockout", ring, 1, 1, 2, 1, 2);
    }

    private static void besideFailedNode() {
        RingProtection ring = ring();
        ring.failNode(1, true);
        nodesLeave("node 1 down", ring, 1, 2, 1, 0, 0);
        cutsLeave("node 1 down", ring, 2, 2, 1, 0, 1);
        due.is(28, "node 1 down", ring.worstCut(), 3);
    }

    private static void worstOfShortCircuits() {
        for (int span = 0; span < 8; span++) {
            RingProtection ring = new RingProtection();
            ring.reset(8, 1);
            ring.addCircuit(span, (span + 1) % 8, true, 0, false);
            ring.command((span + 3) % 8, RingProtection.LOCKOUT);
            due.is(28, "a circuit over span " + span, ring.worstCut(), span);
        }
    }

    private static void noCircuits() {
        RingProtection ring = new RingProtection();
        cutsLeave("no circuits", ring, 0, 0, 0, 0);
        nodesLeave("no circuits", ring, 0, 0, 0, 0);
        due.is(28, "no circuits", ring.worstCut(), 0);
    }

    private static void planningChangesNothing() {
        RingProtection ring = ring();
        ring.advance(7);
        ring.save(0);
        ring.failWorking(0, true);
        ring.failWorking(0, false);
        ring.advance(2);
        for (int i = 0; i < 5; i++) {
            ring.deliveredIfCut(i);
            ring.deliveredIfNodeFails(i);
        }
        ring.worstCut();
        due.is(26, "request", ring.request(0), RingProtection.WAIT_SPAN);
        due.is(26, "switch", ring.switchOf(0), RingProtection.SPAN_SWITCH);
        due.is(27, "timer", ring.restoreTimer(0), 3);
        due.is(27, "clock", ring.clock(), 9);
        due.is(28, "delivered", ring.deliveredCount(), 3);
        for (int i = 0; i < 5; i++) {
            due.is(26, "segment " + i, ring.segment(i), 0);
            due.is(26, "working mark " + i, ring.failWorking(i, false), 0);
            due.is(26, "protection mark " + i, ring.failProtection(i, false), 0);
            due.is(27, "node mark " + i, ring.failNode(i, false), 0);
        }
        due.is(28, "timer", ring.restoreTimer(0), 3);
        due.is(28, "the snapshot", ring.restore(0), 7);
        due.is(28, "the other snapshot", ring.restore(1), RingProtection.NOT_SAVED);
    }
}
