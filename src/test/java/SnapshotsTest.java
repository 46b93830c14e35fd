/** Promises 29 and 30: saving and restoring. */
public final class SnapshotsTest {
    private static final Due due = new Due();

    public static void main(String[] args) {
        wrongSlots();
        saveAnswers();
        everythingComesBack();
        ringSwitchesComeBack();
        lostProtectionComesBack();
        runningWaitComesBack();
        waitBeginsAfterRestore();
        snapshotStays();
        snapshotIsOverwritten();
        slotsAreSeparate();
        planningAfterRestore();
        due.end();
    }

    private static void wrongSlots() {
        RingProtection ring = new RingProtection();
        int[] none = {-1, 2, 32, Integer.MIN_VALUE, Integer.MAX_VALUE};
        for (int slot : none) {
            due.is(29, "save " + slot, ring.save(slot), RingProtection.BAD_VALUE);
            due.is(30, "restore " + slot, ring.restore(slot), RingProtection.BAD_VALUE);
        }
        due.is(30, "nothing saved in 0", ring.restore(0), RingProtection.NOT_SAVED);
        due.is(30, "nothing saved in 1", ring.restore(1), RingProtection.NOT_SAVED);
        ring.advance(1);
        ring.save(1);
        due.is(30, "still nothing in 0", ring.restore(0), RingProtection.NOT_SAVED);
        due.is(30, "slot 1", ring.restore(1), 1);
    }

    private static void saveAnswers() {
        RingProtection ring = new RingProtection();
        due.is(29, "at 0", ring.save(0), 0);
        ring.advance(12);
        due.is(29, "at 12", ring.save(1), 12);
        due.is(29, "saving changes no clock", ring.clock(), 12);
        ring.advance(1);
        due.is(30, "back to 0", ring.restore(0), 0);
        due.is(30, "clock", ring.clock(), 0);
        due.is(30, "on to 12", ring.restore(1), 12);
        due.is(30, "clock", ring.clock(), 12);
    }

    private static void everythingComesBack() {
        RingProtection ring = new RingProtection();
        ring.reset(7, 3);
        ring.setRestoreTime(9);
        ring.advance(4);
        ring.addCircuit(0, 3, true, 2, false);
        ring.addCircuit(5, 6, true, 2, true);
        ring.addCircuit(4, 6, false, 1, false);
        ring.removeCircuit(0);
        ring.failWorking(0, true);
        ring.failProtection(1, true);
        ring.failNode(3, true);
        ring.command(5, RingProtection.FORCED_SPAN);
        ring.save(0);

        ring.setRestoreTime(2);
        ring.reset(3, 1);
        ring.addCircuit(0, 1, true, 0, false);
        ring.addCircuit(1, 2, true, 0, false);
        ring.failWorking(1, true);
        ring.failProtection(2, true);
        ring.failNode(0, true);
        ring.command(0, RingProtection.LOCKOUT);
        ring.advance(50);

        due.is(30, "clock", ring.restore(0), 4);
        due.is(30, "circuits", ring.circuitCount(), 2);
        due.is(30, "no circuit 0", ring.pathLength(0), RingProtection.NO_SUCH_CIRCUIT);
        due.is(30, "circuit 1", ring.pathLength(1), 1);
        due.is(30, "circuit 2", ring.pathLength(2), 5);
        int[] requests = {5, 9, 6, 6, 0, 7, 0};
        int[] switches = {1, 0, 0, 0, 0, 1, 0};
        for (int span = 0; span < 7; span++) {
            due.is(30, "request " + span, ring.request(span), requests[span]);
            due.is(30, "switchOf " + span, ring.switchOf(span), switches[span]);
            due.is(30, "segment " + span, ring.segment(span), 0);
        }
        due.is(30, "state of the extra one", ring.state(1), RingProtection.PREEMPTED);
        due.is(30, "state of the normal one", ring.state(2), RingProtection.LOST);
        due.is(30, "slot in use", ring.addCircuit(5, 6, true, 2, true),
            RingProtection.SLOT_IN_USE);
        due.is(30, "a slot of the snapshot's ring", ring.addCircuit(5, 6, true, 2, false), 0);
        for (int i = 0; i < 7; i++) {
            due.is(30, "command " + i, ring.command(i, 0), i == 5 ? 7 : 0);
            due.is(30, "working " + i, ring.failWorking(i, false), i == 0 ? 1 : 0);
            due.is(30, "protection " + i, ring.failProtection(i, false), i == 1 ? 1 : 0);
            due.is(30, "node " + i, ring.failNode(i, false), i == 3 ? 1 : 0);
        }
        due.is(30, "restore time", ring.setRestoreTime(1), 9);
        due.is(30, "nodes", ring.reset(4, 1), 7);
    }

    private static void ringSwitchesComeBack() {
        RingProtection ring = new RingProtection();
        ring.addCircuit(0, 2, true, 0, false);
        ring.failNode(1, true);
        ring.failNode(2, true);
        ring.save(0);
        ring.reset(4, 1);
        ring.restore(0);
        int[] switches = {2, 2, 2, 0};
        int[] segments = {0, 1, 2, 0};
        for (int i = 0; i < 4; i++) {
            due.is(30, "switchOf " + i, ring.switchOf(i), switches[i]);
            due.is(30, "segment " + i, ring.segment(i), segments[i]);
        }
        due.is(30, "state", ring.state(0), RingProtection.SQUELCHED);
        due.is(30, "squelchedAt", ring.squelchedAt(1), 1);
    }

    private static void lostProtectionComesBack() {
        RingProtection ring = new RingProtection();
        ring.addCircuit(0, 1, true, 0, true);
        ring.addCircuit(0, 1, true, 0, false);
        ring.addCircuit(1, 2, true, 0, true);
        ring.addCircuit(1, 2, true, 0, false);
        ring.failProtection(0, true);
        ring.failWorking(1, true);
        ring.command(1, RingProtection.LOCKOUT);
        ring.save(0);
        ring.reset(4, 1);
        ring.restore(0);
        due.is(30, "protection down, extra", ring.state(0), RingProtection.LOST);
        due.is(30, "protection down, normal", ring.state(1), RingProtection.UNDISTURBED);
        due.is(30, "working down, extra", ring.state(2), RingProtection.UNDISTURBED);
        due.is(30, "working down, normal", ring.state(3), RingProtection.LOST);
    }

    private static void runningWaitComesBack() {
        RingProtection ring = new RingProtection();
        ring.failNode(1, true);
        ring.failNode(1, false);
        ring.failWorking(3, true);
        ring.failWorking(3, false);
        ring.advance(1);
        due.is(29, "span 3 waits", ring.request(3), RingProtection.WAIT_SPAN);
        ring.save(1);
        ring.failNode(0, true);
        ring.failNode(0, false);
        due.is(29, "span 0 waits", ring.request(0), RingProtection.WAIT_RING);
        ring.save(0);
        ring.advance(10);
        ring.restore(1);
        due.is(30, "span wait", ring.request(3), RingProtection.WAIT_SPAN);
        due.is(30, "its timer", ring.restoreTimer(3), 4);
        due.is(30, "its switch", ring.switchOf(3), RingProtection.SPAN_SWITCH);
        due.is(30, "no ring wait", ring.request(0), RingProtection.NO_REQUEST);
        ring.restore(0);
        due.is(30, "ring wait", ring.request(0), RingProtection.WAIT_RING);
        due.is(30, "its timer", ring.restoreTimer(0), 5);
        due.is(30, "no span wait", ring.request(3), RingProtection.NO_REQUEST);
        ring.advance(5);
        due.is(30, "it ends", ring.switchOf(0), RingProtection.NO_SWITCH);
    }

    private static void waitBeginsAfterRestore() {
        RingProtection ring = new RingProtection();
        ring.setRestoreTime(8);
        ring.failWorking(2, true);
        ring.save(0);
        ring.failWorking(2, false);
        ring.advance(20);
        ring.setRestoreTime(3);
        ring.restore(0);
        ring.failWorking(2, false);
        due.is(30, "the old request and switch are known", ring.request(2),
            RingProtection.WAIT_SPAN);
        due.is(30, "by the saved restore time", ring.restoreTimer(2), 8);
        ring.reset(4, 2);
        ring.save(0);
        ring.failWorking(2, true);
        ring.restore(0);
        ring.advance(1);
        due.is(30, "no wait from a failure that never was", ring.restoreTimer(2), 0);
    }

    private static void snapshotStays() {
        RingProtection ring = new RingProtection();
        ring.addCircuit(0, 1, true, 0, false);
        ring.save(0);
        for (int i = 0; i < 3; i++) {
            ring.addCircuit(1, 2, true, 0, false);
            ring.failWorking(0, true);
            ring.command(1, RingProtection.FORCED_RING);
            ring.failNode(2, true);
            ring.advance(6);
            due.is(30, "clock", ring.restore(0), 0);
            due.is(30, "circuits", ring.circuitCount(), 1);
            due.is(30, "request 0", ring.request(0), RingProtection.NO_REQUEST);
            due.is(30, "switch 1", ring.switchOf(1), RingProtection.NO_SWITCH);
            due.is(30, "state", ring.state(0), RingProtection.UNDISTURBED);
        }
    }

    private static void snapshotIsOverwritten() {
        RingProtection ring = new RingProtection();
        ring.save(0);
        ring.advance(1);
        ring.addCircuit(0, 1, true, 0, false);
        ring.save(0);
        ring.advance(1);
        ring.removeCircuit(0);
        due.is(29, "the last one", ring.restore(0), 1);
        due.is(29, "its circuit", ring.circuitCount(), 1);
        due.is(29, "saved again after restoring", ring.save(1), 1);
    }

    private static void slotsAreSeparate() {
        RingProtection ring = new RingProtection();
        ring.reset(5, 1);
        ring.save(0);
        ring.reset(6, 2);
        ring.save(1);
        ring.reset(7, 3);
        ring.restore(0);
        due.is(30, "slot 0", ring.segment(5), RingProtection.NO_SUCH_NODE);
        due.is(30, "slot 0 has node 4", ring.segment(4), 0);
        ring.restore(1);
        due.is(30, "slot 1, restored after slot 0", ring.segment(5), 0);
        due.is(30, "slot 1 has no node 6", ring.segment(6), RingProtection.NO_SUCH_NODE);
        due.is(30, "slot 1's time slots", ring.addCircuit(0, 1, true, 1, false), 0);
        ring.restore(0);
        due.is(30, "slot 0's time slots", ring.addCircuit(0, 1, true, 1, false),
            RingProtection.BAD_VALUE);
    }

    private static void planningAfterRestore() {
        RingProtection ring = new RingProtection();
        ring.addCircuit(0, 2, true, 0, false);
        ring.addCircuit(2, 3, true, 0, true);
        ring.save(0);
        ring.reset(8, 1);
        due.is(30, "an empty ring", ring.deliveredIfCut(7), 0);
        ring.restore(0);
        due.is(30, "the saved ring", ring.deliveredIfCut(3), 1);
        due.is(30, "no span 4", ring.deliveredIfCut(4), RingProtection.NO_SUCH_SPAN);
        due.is(30, "delivered", ring.deliveredCount(), 2);
    }
}
