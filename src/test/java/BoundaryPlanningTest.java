/** The boundary cases of promises 26 to 28, each under the sentence of the document that names it. */
final class BoundaryPlanningTest implements Doc {
    private static final int[] NEVER_A_NUMBER = {-1, 8, 9, 31, 32, 33, LEAST, GREATEST};

    public static void main(String[] args) throws IllegalAccessException {
        Cases.run(BoundaryPlanningTest.class, 26, 28);
    }

    // ---- promise 26: deliveredIfCut

    // "NO_SUCH_SPAN if the span does not exist"
    static void promise26NoSuchSpan() {
        for (int nodes = 3; nodes <= 8; nodes++) {
            RingProtection ring = Cases.ringOf(nodes, 1);
            ring.addCircuit(nodes - 1, 0, true, 0, false);
            Cases.is("span " + nodes, ring.deliveredIfCut(nodes), NO_SUCH_SPAN);
            Cases.is("last span of " + nodes, ring.deliveredIfCut(nodes - 1), 1);
        }
        for (int span : NEVER_A_NUMBER) {
            Cases.is("span " + span, new RingProtection().deliveredIfCut(span), NO_SUCH_SPAN);
        }
    }

    // "how many circuits would be delivered": none, and 16
    static void promise26NoneAndAll() {
        Cases.is("no circuits", new RingProtection().deliveredIfCut(0), 0);
        RingProtection ring = Cases.fullRing();
        for (int span = 0; span < 8; span++) {
            Cases.is("a first cut, span " + span, ring.deliveredIfCut(span), 16);
        }
        Cases.cut(ring, 3);
        Cases.is("a second cut", ring.deliveredIfCut(7), 12);
    }

    // "if both capacities of a span were marked as failed": where some or all of it is so already
    static void promise26AlreadyFailed() {
        RingProtection ring = Cases.ringOf(6, 1);
        ring.addCircuit(0, 3, true, 0, false);
        ring.addCircuit(3, 5, true, 0, true);
        ring.failWorking(1, true);
        Cases.is("now", ring.deliveredCount(), 2);
        Cases.is("working is failed", ring.deliveredIfCut(1), 1);
        ring.failWorking(1, false);
        ring.advance(5);
        ring.failProtection(1, true);
        Cases.is("protection is failed", ring.deliveredIfCut(1), 1);
        ring.failWorking(1, true);
        Cases.is("both are failed", ring.deliveredIfCut(1), 1);
        Cases.is("as it is now", ring.deliveredCount(), 1);
        ring.failNode(1, true);
        Cases.is("a node of it is failed", ring.deliveredIfCut(1), 1);
    }

    // the same: both at once, not one alone
    static void promise26BothCapacities() {
        RingProtection ring = Cases.ringOf(6, 1);
        ring.addCircuit(3, 4, true, 0, true);
        Cases.is("a ring switch preempts it", ring.deliveredIfCut(0), 0);
        ring.command(5, LOCKOUT);
        Cases.is("no ring switch beside a lockout", ring.deliveredIfCut(0), 1);
        Cases.is("its own span, lost", ring.deliveredIfCut(3), 0);
        ring.removeCircuit(0);
        ring.addCircuit(3, 4, true, 0, false);
        Cases.is("a normal one, lost", ring.deliveredIfCut(3), 0);
    }

    // "right after the controller has run": the commands and waits of now have their say
    static void promise26RightAfterTheRun() {
        RingProtection ring = Cases.ringOf(6, 1);
        ring.addCircuit(3, 4, true, 0, true);
        ring.addCircuit(0, 1, true, 0, false);
        ring.setRestoreTime(1);
        Cases.failAndMend(ring, 3);
        ring.command(5, LOCKOUT);
        Cases.is("the wait preempts, the cut loses", ring.deliveredIfCut(0), 0);
        ring.advance(1);
        Cases.is("the wait is over", ring.deliveredIfCut(0), 1);
        ring.command(5, FORCED_SPAN);
        Cases.is("a forced span stands before the cut", ring.deliveredIfCut(0), 1);
        ring.command(5, MANUAL_SPAN);
        Cases.is("a manual one behind it", ring.deliveredIfCut(0), 1);
        ring.command(5, NO_REQUEST);
        ring.command(0, LOCKOUT);
        Cases.is("a lockout of the span itself", ring.deliveredIfCut(0), 1);
    }

    // "these methods change nothing"
    static void promise26ChangesNothing() {
        for (int kind = 0; kind < Cases.BUSY; kind++) {
            RingProtection ring = Cases.busy(kind);
            for (int span = -1; span <= 8; span++) {
                ring.deliveredIfCut(span);
            }
            Cases.same("cuts that were only asked for", ring, Cases.busy(kind));
        }
    }

    // ---- promise 27: deliveredIfNodeFails

    // "NO_SUCH_NODE if the node does not exist"
    static void promise27NoSuchNode() {
        for (int nodes = 3; nodes <= 8; nodes++) {
            RingProtection ring = Cases.ringOf(nodes, 1);
            ring.addCircuit(nodes - 1, 0, true, 0, false);
            Cases.is("node " + nodes, ring.deliveredIfNodeFails(nodes), NO_SUCH_NODE);
            Cases.is("last node of " + nodes, ring.deliveredIfNodeFails(nodes - 1), 0);
            Cases.is("another node of " + nodes, ring.deliveredIfNodeFails(1), 1);
        }
        for (int node : NEVER_A_NUMBER) {
            Cases.is("node " + node, new RingProtection().deliveredIfNodeFails(node),
                NO_SUCH_NODE);
        }
    }

    // "how many circuits would be delivered": none, and of 16
    static void promise27NoneAndAll() {
        Cases.is("no circuits", new RingProtection().deliveredIfNodeFails(0), 0);
        RingProtection ring = Cases.fullRing();
        for (int node = 0; node < 8; node++) {
            Cases.is("node " + node, ring.deliveredIfNodeFails(node), 12);
        }
    }

    // "if a node were marked as failed": one that is so already
    static void promise27AlreadyFailed() {
        RingProtection ring = Cases.ringOf(8, 2);
        ring.addCircuit(7, 2, true, 0, false);
        ring.addCircuit(0, 2, true, 1, false);
        ring.failNode(0, true);
        Cases.is("now", ring.deliveredCount(), 1);
        Cases.is("the same node", ring.deliveredIfNodeFails(0), 1);
        Cases.is("its neighbour on the path", ring.deliveredIfNodeFails(1), 1);
        Cases.is("its neighbour at the end", ring.deliveredIfNodeFails(7), 0);
        Cases.is("one off the path", ring.deliveredIfNodeFails(5), 0);
    }

    // "right after the controller has run"
    static void promise27RightAfterTheRun() {
        RingProtection ring = Cases.ringOf(8, 1);
        ring.addCircuit(0, 1, true, 0, true);
        Cases.is("a ring switch preempts it", ring.deliveredIfNodeFails(4), 0);
        ring.command(6, LOCKOUT);
        Cases.is("no ring switch beside a lockout", ring.deliveredIfNodeFails(4), 1);
        Cases.is("its end", ring.deliveredIfNodeFails(0), 0);
        ring.setRestoreTime(1);
        Cases.failAndMend(ring, 0);
        Cases.is("a wait preempts it", ring.deliveredIfNodeFails(4), 0);
        ring.advance(1);
        Cases.is("the wait is over", ring.deliveredIfNodeFails(4), 1);
    }

    // "these methods change nothing"
    static void promise27ChangesNothing() {
        for (int kind = 0; kind < Cases.BUSY; kind++) {
            RingProtection ring = Cases.busy(kind);
            for (int node = -1; node <= 8; node++) {
                ring.deliveredIfNodeFails(node);
            }
            Cases.same("nodes that were only asked for", ring, Cases.busy(kind));
        }
    }

    // ---- promise 28: worstCut

    // "the smallest span number if there are several": all of them, with and without circuits
    static void promise28AllTheSame() {
        for (int nodes = 3; nodes <= 8; nodes++) {
            RingProtection ring = Cases.ringOf(nodes, 1);
            Cases.is("no circuits, " + nodes, ring.worstCut(), 0);
            ring.addCircuit(nodes - 1, 0, true, 0, false);
            Cases.is("one that every cut leaves, " + nodes, ring.worstCut(), 0);
            ring.addCircuit(nodes - 1, 0, true, 0, true);
            Cases.is("one that every cut preempts, " + nodes, ring.worstCut(), 0);
        }
    }

    // the same: two of them, of which the greater comes first in no order
    static void promise28TwoTheSame() {
        RingProtection ring = Cases.ringOf(8, 1);
        ring.addCircuit(7, 0, true, 0, false);
        ring.addCircuit(2, 3, true, 0, false);
        ring.command(5, LOCKOUT);
        Cases.is("spans 2 and 7", ring.worstCut(), 2);
        ring.addCircuit(7, 0, true, 0, true);
        Cases.is("span 7 has two", ring.worstCut(), 7);
    }

    // "the span for which deliveredIfCut() is smallest": the last span of each ring
    static void promise28LastSpan() {
        for (int nodes = 3; nodes <= 8; nodes++) {
            RingProtection ring = Cases.ringOf(nodes, 1);
            ring.addCircuit(nodes - 1, 0, true, 0, false);
            ring.command(1, LOCKOUT);
            Cases.is("last span of " + nodes, ring.worstCut(), nodes - 1);
        }
    }

    // the same: a span that is cut already, and 16 circuits
    static void promise28BesideACut() {
        RingProtection ring = Cases.fullRing();
        Cases.cut(ring, 0);
        Cases.is("cutting span 0 again is the best", ring.worstCut(), 1);
        ring.removeCircuit(1);
        Cases.is("span 1 has one circuit less", ring.worstCut(), 2);
    }

    // "these methods change nothing"
    static void promise28ChangesNothing() {
        for (int kind = 0; kind < Cases.BUSY; kind++) {
            RingProtection ring = Cases.busy(kind);
            int worst = ring.worstCut();
            Cases.is("asked again", ring.worstCut(), worst);
            Cases.same("worstCut", ring, Cases.busy(kind));
        }
    }
}
