/** Promises 1 to 8: a new object, reset, and the circuits with their paths and slots. */
public final class CircuitsTest {
    private static final Due due = new Due();

    public static void main(String[] args) {
        newObject();
        resetAnswers();
        resetClears();
        resetKeeps();
        addCircuitNumbers();
        addCircuitFaults();
        addCircuitFaultOrder();
        slotsOfTheTwoKinds();
        removeCircuit();
        circuitCount();
        freeSlot();
        circuitsOn();
        pathLength();
        due.end();
    }

    private static void newObject() {
        RingProtection ring = new RingProtection();
        due.is(1, "circuitCount", ring.circuitCount(), 0);
        due.is(1, "clock", ring.clock(), 0);
        due.is(1, "restore(0), nothing saved", ring.restore(0), RingProtection.NOT_SAVED);
        due.is(1, "restore(1), nothing saved", ring.restore(1), RingProtection.NOT_SAVED);
        due.is(1, "setRestoreTime(5)", ring.setRestoreTime(5), 5);
        due.is(1, "request(4), no fifth span", ring.request(4), RingProtection.NO_SUCH_SPAN);
        for (int i = 0; i < 4; i++) {
            due.is(1, "request " + i, ring.request(i), RingProtection.NO_REQUEST);
            due.is(1, "switchOf " + i, ring.switchOf(i), RingProtection.NO_SWITCH);
            due.is(1, "restoreTimer " + i, ring.restoreTimer(i), 0);
            due.is(1, "segment " + i, ring.segment(i), 0);
            due.is(1, "command " + i, ring.command(i, 0), RingProtection.NO_REQUEST);
            due.is(1, "failWorking " + i, ring.failWorking(i, false), 0);
            due.is(1, "failProtection " + i, ring.failProtection(i, false), 0);
            due.is(1, "failNode " + i, ring.failNode(i, false), 0);
        }
        due.is(1, "slot 1", ring.addCircuit(0, 1, true, 1, false), 0);
        due.is(1, "slot 2", ring.addCircuit(0, 1, true, 2, false), RingProtection.BAD_VALUE);
        due.is(1, "reset", ring.reset(3, 1), 4);
    }

    private static void resetAnswers() {
        RingProtection ring = new RingProtection();
        due.is(2, "reset(3, 1)", ring.reset(3, 1), 4);
        due.is(2, "reset(8, 4)", ring.reset(8, 4), 3);
        due.is(2, "reset(8, 4) again", ring.reset(8, 4), 8);
        due.is(2, "segment(7)", ring.segment(7), 0);
        due.is(2, "slot 3", ring.addCircuit(0, 7, true, 3, true), 0);
        int[][] bad = {{2, 1}, {9, 1}, {3, 0}, {3, 5}, {-1, 2}, {4, -1},
            {Integer.MIN_VALUE, 2}, {Integer.MAX_VALUE, 2}, {4, Integer.MIN_VALUE},
            {4, Integer.MAX_VALUE}};
        for (int[] pair : bad) {
            due.is(2, "reset(" + pair[0] + ", " + pair[1] + ")", ring.reset(pair[0], pair[1]),
                RingProtection.BAD_VALUE);
        }
        due.is(2, "circuits after refused resets", ring.circuitCount(), 1);
        due.is(2, "nodes after refused resets", ring.reset(5, 2), 8);
        due.is(2, "segment(5) of five nodes", ring.segment(5), RingProtection.NO_SUCH_NODE);
        due.is(2, "segment(4) of five nodes", ring.segment(4), 0);
    }

    private static void resetClears() {
        RingProtection ring = new RingProtection();
        ring.addCircuit(0, 1, true, 0, false);
        ring.addCircuit(0, 1, true, 0, true);
        ring.failWorking(1, true);
        ring.failWorking(1, false);
        ring.advance(2);
        ring.failWorking(0, true);
        ring.failProtection(0, true);
        ring.failNode(2, true);
        ring.command(3, RingProtection.FORCED_RING);
        ring.reset(4, 2);
        due.is(2, "circuitCount", ring.circuitCount(), 0);
        due.is(2, "clock", ring.clock(), 0);
        for (int i = 0; i < 4; i++) {
            due.is(2, "request " + i, ring.request(i), RingProtection.NO_REQUEST);
            due.is(2, "switchOf " + i, ring.switchOf(i), RingProtection.NO_SWITCH);
            due.is(2, "restoreTimer " + i, ring.restoreTimer(i), 0);
            due.is(2, "segment " + i, ring.segment(i), 0);
        }
        due.is(2, "new circuit", ring.addCircuit(0, 1, true, 0, false), 0);
        due.is(2, "its state", ring.state(0), RingProtection.UNDISTURBED);
        due.is(2, "new extra circuit", ring.addCircuit(0, 2, true, 0, true), 1);
        due.is(2, "state of the extra circuit", ring.state(1), RingProtection.UNDISTURBED);
        ring.advance(1);
        due.is(2, "no wait begins after a reset", ring.restoreTimer(0), 0);
        due.is(2, "command 3", ring.command(3, 0), RingProtection.NO_REQUEST);
        due.is(2, "failWorking 0", ring.failWorking(0, false), 0);
        due.is(2, "failProtection 0", ring.failProtection(0, false), 0);
        due.is(2, "failNode 2", ring.failNode(2, false), 0);

        ring.failWorking(1, true);
        ring.failWorking(1, false);
        due.is(2, "timer before the reset", ring.restoreTimer(1), 5);
        ring.reset(4, 2);
        due.is(2, "timer after the reset", ring.restoreTimer(1), 0);
        due.is(2, "switch after the reset", ring.switchOf(1), RingProtection.NO_SWITCH);
    }

    private static void resetKeeps() {
        RingProtection ring = new RingProtection();
        ring.setRestoreTime(17);
        ring.advance(3);
        ring.save(1);
        ring.reset(6, 1);
        due.is(2, "the snapshot stays", ring.restore(1), 3);
        due.is(2, "nodes of the snapshot", ring.reset(7, 1), 4);
        due.is(2, "the restore time stays", ring.setRestoreTime(5), 17);
        due.is(2, "nothing appears in slot 0", ring.restore(0), RingProtection.NOT_SAVED);
    }

    private static void addCircuitNumbers() {
        RingProtection ring = new RingProtection();
        ring.reset(8, 4);
        for (int i = 0; i < 16; i++) {
            due.is(3, "circuit " + i, ring.addCircuit(i % 8, (i + 1) % 8, true, i / 8, false), i);
        }
        due.is(3, "a seventeenth", ring.addCircuit(0, 1, true, 3, true),
            RingProtection.TOO_MANY_CIRCUITS);
        ring.removeCircuit(15);
        ring.removeCircuit(4);
        ring.removeCircuit(9);
        due.is(3, "smallest free number", ring.addCircuit(0, 2, true, 0, true), 4);
        due.is(3, "next free number", ring.addCircuit(0, 2, true, 1, true), 9);
        due.is(3, "last free number", ring.addCircuit(0, 2, true, 2, true), 15);
    }

    private static void addCircuitFaults() {
        RingProtection ring = new RingProtection();
        int[] noNodes = {-1, 4, 8, 31, 32, Integer.MIN_VALUE, Integer.MAX_VALUE};
        for (int node : noNodes) {
            due.is(3, "first end " + node, ring.addCircuit(node, 1, true, 0, false),
                RingProtection.NO_SUCH_NODE);
            due.is(3, "second end " + node, ring.addCircuit(1, node, false, 0, true),
                RingProtection.NO_SUCH_NODE);
            due.is(3, "both ends " + node, ring.addCircuit(node, node, true, 0, false),
                RingProtection.NO_SUCH_NODE);
        }
        due.is(3, "same ends", ring.addCircuit(2, 2, true, 0, false), RingProtection.SAME_NODE);
        int[] noSlots = {-1, 2, 4, 32, Integer.MIN_VALUE, Integer.MAX_VALUE};
        for (int slot : noSlots) {
            due.is(3, "slot " + slot, ring.addCircuit(0, 1, true, slot, false),
                RingProtection.BAD_VALUE);
        }
        due.is(3, "nothing was added", ring.circuitCount(), 0);
        ring.addCircuit(3, 1, true, 1, false);
        due.is(3, "shares span 3", ring.addCircuit(3, 0, true, 1, false),
            RingProtection.SLOT_IN_USE);
        due.is(3, "shares span 0", ring.addCircuit(1, 0, false, 1, false),
            RingProtection.SLOT_IN_USE);
        due.is(3, "shares no span", ring.addCircuit(3, 1, false, 1, false), 1);
        due.is(3, "another slot", ring.addCircuit(3, 1, true, 0, false), 2);
        due.is(3, "count", ring.circuitCount(), 3);
    }

    private static void addCircuitFaultOrder() {
        RingProtection ring = new RingProtection();
        due.is(3, "no node before bad slot", ring.addCircuit(9, 0, true, 9, false),
            RingProtection.NO_SUCH_NODE);
        due.is(3, "same node before bad slot", ring.addCircuit(1, 1, true, 9, false),
            RingProtection.SAME_NODE);
        ring.reset(8, 2);
        for (int i = 0; i < 16; i++) {
            ring.addCircuit(i % 8, (i + 1) % 8, true, i / 8, false);
        }
        due.is(3, "full: no node first", ring.addCircuit(0, 8, true, 0, false),
            RingProtection.NO_SUCH_NODE);
        due.is(3, "full: same node first", ring.addCircuit(0, 0, true, 0, false),
            RingProtection.SAME_NODE);
        due.is(3, "full: bad slot first", ring.addCircuit(0, 1, true, 2, false),
            RingProtection.BAD_VALUE);
        due.is(3, "too many before slot in use", ring.addCircuit(0, 1, true, 0, false),
            RingProtection.TOO_MANY_CIRCUITS);
    }

    private static void slotsOfTheTwoKinds() {
        RingProtection ring = new RingProtection();
        ring.reset(3, 1);
        due.is(3, "normal", ring.addCircuit(0, 1, true, 0, false), 0);
        due.is(3, "extra on the same span", ring.addCircuit(0, 1, true, 0, true), 1);
        due.is(3, "normal again", ring.addCircuit(0, 1, true, 0, false),
            RingProtection.SLOT_IN_USE);
        due.is(3, "extra again", ring.addCircuit(0, 2, true, 0, true), RingProtection.SLOT_IN_USE);
        ring.removeCircuit(1);
        due.is(3, "the number of an extra one", ring.addCircuit(1, 2, true, 0, false), 1);
        due.is(3, "is a normal one now", ring.addCircuit(1, 2, true, 0, true), 2);
    }

    private static void removeCircuit() {
        RingProtection ring = new RingProtection();
        ring.addCircuit(0, 2, true, 0, false);
        ring.addCircuit(0, 2, true, 1, false);
        ring.addCircuit(0, 2, true, 1, true);
        int[] none = {-1, 3, 15, 16, 32, 33, Integer.MIN_VALUE, Integer.MAX_VALUE};
        for (int circuit : none) {
            due.is(4, "removeCircuit " + circuit, ring.removeCircuit(circuit),
                RingProtection.NO_SUCH_CIRCUIT);
        }
        due.is(4, "removeCircuit 1", ring.removeCircuit(1), 2);
        due.is(4, "removeCircuit 1 again", ring.removeCircuit(1), RingProtection.NO_SUCH_CIRCUIT);
        due.is(4, "its slot is free", ring.freeSlot(0, 2, true, false), 1);
        due.is(4, "it is on no span", ring.circuitsOn(0), 0b101);
        due.is(4, "it is in no state", ring.circuitsIn(0), 0b101);
        due.is(4, "removeCircuit 0", ring.removeCircuit(0), 1);
        due.is(4, "removeCircuit 2", ring.removeCircuit(2), 0);
    }

    private static void circuitCount() {
        RingProtection ring = new RingProtection();
        ring.addCircuit(0, 1, true, 0, false);
        due.is(5, "one", ring.circuitCount(), 1);
        ring.addCircuit(0, 1, true, 0, false);
        due.is(5, "one was refused", ring.circuitCount(), 1);
        ring.addCircuit(0, 1, true, 0, true);
        due.is(5, "with an extra one", ring.circuitCount(), 2);
        ring.removeCircuit(0);
        due.is(5, "one was removed", ring.circuitCount(), 1);
    }

    private static void freeSlot() {
        RingProtection ring = new RingProtection();
        ring.reset(5, 3);
        due.is(6, "empty ring", ring.freeSlot(4, 1, true, false), 0);
        ring.addCircuit(0, 1, true, 0, false);
        ring.addCircuit(4, 0, true, 2, false);
        ring.addCircuit(2, 3, true, 1, false);
        due.is(6, "over spans 4 and 0", ring.freeSlot(4, 1, true, false), 1);
        due.is(6, "over span 4", ring.freeSlot(4, 0, true, false), 0);
        due.is(6, "over spans 1 to 3", ring.freeSlot(4, 1, false, false), 0);
        due.is(6, "all slots in use somewhere", ring.freeSlot(4, 3, true, false),
            RingProtection.NONE);
        due.is(6, "extra", ring.freeSlot(4, 3, true, true), 0);
        ring.addCircuit(0, 1, true, 0, true);
        due.is(6, "extra, slot 0 in use", ring.freeSlot(4, 3, true, true), 1);
        due.is(6, "nothing was added", ring.circuitCount(), 4);
        int[] noNodes = {-1, 5, 32, Integer.MIN_VALUE, Integer.MAX_VALUE};
        for (int node : noNodes) {
            due.is(6, "first end " + node, ring.freeSlot(node, 1, true, false),
                RingProtection.NO_SUCH_NODE);
            due.is(6, "second end " + node, ring.freeSlot(1, node, false, true),
                RingProtection.NO_SUCH_NODE);
            due.is(6, "both ends " + node, ring.freeSlot(node, node, false, true),
                RingProtection.NO_SUCH_NODE);
        }
        due.is(6, "same ends", ring.freeSlot(3, 3, true, false), RingProtection.SAME_NODE);
        due.is(6, "same ends, extra", ring.freeSlot(3, 3, false, true), RingProtection.SAME_NODE);
    }

    private static void circuitsOn() {
        RingProtection ring = new RingProtection();
        ring.reset(5, 4);
        ring.addCircuit(3, 1, true, 0, false);
        ring.addCircuit(3, 1, false, 0, false);
        ring.addCircuit(4, 3, true, 1, true);
        due.is(7, "span 0", ring.circuitsOn(0), 0b101);
        due.is(7, "span 1", ring.circuitsOn(1), 0b110);
        due.is(7, "span 2", ring.circuitsOn(2), 0b110);
        due.is(7, "span 3", ring.circuitsOn(3), 0b001);
        due.is(7, "span 4", ring.circuitsOn(4), 0b101);
        int[] none = {-1, 5, 8, 32, Integer.MIN_VALUE, Integer.MAX_VALUE};
        for (int span : none) {
            due.is(7, "span " + span, ring.circuitsOn(span), RingProtection.NO_SUCH_SPAN);
        }
        ring.reset(8, 4);
        for (int i = 0; i < 16; i++) {
            ring.addCircuit(i % 8, (i + 1) % 8, true, i / 8, i % 2 == 0);
        }
        due.is(7, "span 7 of sixteen circuits", ring.circuitsOn(7), 0b1000000010000000);
        due.is(7, "span 0 of sixteen circuits", ring.circuitsOn(0), 0b0000000100000001);
    }

    private static void pathLength() {
        RingProtection ring = new RingProtection();
        ring.reset(8, 4);
        ring.addCircuit(6, 1, true, 0, false);
        ring.addCircuit(6, 1, false, 0, false);
        ring.addCircuit(1, 0, true, 1, true);
        ring.addCircuit(1, 0, false, 1, true);
        due.is(8, "from 6 to 1", ring.pathLength(0), 3);
        due.is(8, "from 6 to 1 the other way", ring.pathLength(1), 5);
        due.is(8, "from 1 to 0", ring.pathLength(2), 7);
        due.is(8, "from 1 to 0 the other way", ring.pathLength(3), 1);
        int[] none = {-1, 4, 15, 16, 32, Integer.MIN_VALUE, Integer.MAX_VALUE};
        for (int circuit : none) {
            due.is(8, "circuit " + circuit, ring.pathLength(circuit),
                RingProtection.NO_SUCH_CIRCUIT);
        }
    }
}
