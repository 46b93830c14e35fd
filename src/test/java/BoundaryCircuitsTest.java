/** The boundary cases of promises 1 to 8, each under the sentence of the document that names it. */
final class BoundaryCircuitsTest implements Doc {
    private static final int[] NEVER_A_NODE = {-1, 8, 9, 31, 32, 33, LEAST, GREATEST};
    private static final int[] NEVER_A_CIRCUIT = {-1, -32, 16, 17, 32, LEAST, GREATEST};

    public static void main(String[] args) throws IllegalAccessException {
        Cases.run(BoundaryCircuitsTest.class, 1, 8);
    }

    // ---- promise 1: a new object

    // "Creates a ring with 4 nodes ..."
    static void promise01FourNodes() {
        RingProtection ring = new RingProtection();
        Cases.is("node 3", ring.segment(3), 0);
        Cases.is("node 4", ring.segment(4), NO_SUCH_NODE);
        Cases.is("span 3", ring.circuitsOn(3), 0);
        Cases.is("span 4", ring.circuitsOn(4), NO_SUCH_SPAN);
        Cases.is("from 3 to 0 over one span", ring.addCircuit(3, 0, true, 0, false), 0);
        Cases.is("its length", ring.pathLength(0), 1);
        Cases.is("nodes before a reset", ring.reset(3, 1), 4);
    }

    // "... and 2 time slots, ..."
    static void promise01TwoSlots() {
        RingProtection ring = new RingProtection();
        Cases.is("slot 2", ring.addCircuit(0, 1, true, 2, false), BAD_VALUE);
        Cases.is("slot 2, extra", ring.addCircuit(0, 1, true, 2, true), BAD_VALUE);
        Cases.is("slot 1", ring.addCircuit(0, 1, true, 1, false), 0);
        Cases.is("slot 0", ring.addCircuit(0, 1, true, 0, false), 1);
        Cases.is("a third one", ring.freeSlot(0, 1, true, false), NONE);
    }

    // "... without circuits, ..."
    static void promise01NoCircuits() {
        RingProtection ring = new RingProtection();
        Cases.is("count", ring.circuitCount(), 0);
        for (int circuit = 0; circuit < 16; circuit++) {
            Cases.is("state " + circuit, ring.state(circuit), NO_SUCH_CIRCUIT);
        }
        for (int span = 0; span < 4; span++) {
            Cases.is("circuits on " + span, ring.circuitsOn(span), 0);
        }
    }

    // "... failures and commands."
    static void promise01NoFailuresAndCommands() {
        RingProtection ring = new RingProtection();
        for (int i = 0; i < 4; i++) {
            Cases.is("request " + i, ring.request(i), NO_REQUEST);
            Cases.is("working mark " + i, ring.failWorking(i, false), 0);
            Cases.is("protection mark " + i, ring.failProtection(i, false), 0);
            Cases.is("node mark " + i, ring.failNode(i, false), 0);
            Cases.is("command " + i, ring.command(i, NO_REQUEST), NO_REQUEST);
        }
    }

    // "The restore time is 5 seconds, ..."
    static void promise01RestoreTimeFive() {
        RingProtection ring = new RingProtection();
        Cases.failAndMend(ring, 0);
        Cases.is("timer", ring.restoreTimer(0), 5);
        Cases.is("restore time", ring.setRestoreTime(6), 5);
    }

    // "... the clock is 0, ..."
    static void promise01ClockZero() {
        Cases.is("clock", new RingProtection().clock(), 0);
        Cases.is("save answers it", new RingProtection().save(0), 0);
        Cases.is("the first second", new RingProtection().advance(1), 1);
    }

    // "... nothing is saved."
    static void promise01NothingSaved() {
        RingProtection other = new RingProtection();
        other.save(0);
        other.save(1);
        RingProtection ring = new RingProtection();
        Cases.is("slot 0", ring.restore(0), NOT_SAVED);
        Cases.is("slot 1", ring.restore(1), NOT_SAVED);
    }

    // "Initially all direct requests are NO_REQUEST and no span has a switch."
    static void promise01NoSwitchAtFirst() {
        RingProtection ring = new RingProtection();
        for (int span = 0; span < 4; span++) {
            Cases.is("switch " + span, ring.switchOf(span), NO_SWITCH);
        }
        ring.advance(1);
        for (int span = 0; span < 4; span++) {
            Cases.is("no wait on " + span, ring.restoreTimer(span), 0);
        }
    }

    // ---- promise 2: reset

    // "nodes: number of nodes, 3 to 8"; "BAD_VALUE if a parameter is out of range": too small
    static void promise02NodesTooSmall() {
        RingProtection ring = new RingProtection();
        int[] tooSmall = {2, 1, 0, -1, -3, LEAST};
        for (int nodes : tooSmall) {
            Cases.is("nodes " + nodes, ring.reset(nodes, 2), BAD_VALUE);
        }
    }

    // the same: too large
    static void promise02NodesTooLarge() {
        RingProtection ring = new RingProtection();
        int[] tooLarge = {9, 10, 16, 32, 36, GREATEST};
        for (int nodes : tooLarge) {
            Cases.is("nodes " + nodes, ring.reset(nodes, 2), BAD_VALUE);
        }
    }

    // "The ring has n nodes, numbered 0 to n - 1, where n is 3 to 8 ... there are also n spans"
    static void promise02EveryNumberOfNodes() {
        RingProtection ring = new RingProtection();
        for (int nodes = 3; nodes <= 8; nodes++) {
            Cases.is("reset " + nodes, ring.reset(nodes, 2), nodes == 3 ? 4 : nodes - 1);
            Cases.is("last node of " + nodes, ring.segment(nodes - 1), 0);
            Cases.is("node after the last of " + nodes, ring.segment(nodes), NO_SUCH_NODE);
            Cases.is("last span of " + nodes, ring.request(nodes - 1), NO_REQUEST);
            Cases.is("span after the last of " + nodes, ring.request(nodes), NO_SUCH_SPAN);
        }
    }

    // "slots: number of time slots, 1 to 4": too small
    static void promise02SlotsTooSmall() {
        RingProtection ring = new RingProtection();
        int[] tooSmall = {0, -1, -4, LEAST};
        for (int slots : tooSmall) {
            Cases.is("slots " + slots, ring.reset(4, slots), BAD_VALUE);
        }
    }

    // the same: too large
    static void promise02SlotsTooLarge() {
        RingProtection ring = new RingProtection();
        int[] tooLarge = {5, 6, 8, 33, GREATEST};
        for (int slots : tooLarge) {
            Cases.is("slots " + slots, ring.reset(4, slots), BAD_VALUE);
        }
    }

    // "the same number of time slots, 1 to 4, numbered from 0"
    static void promise02EveryNumberOfSlots() {
        for (int slots = 1; slots <= 4; slots++) {
            RingProtection ring = new RingProtection();
            Cases.is("slots " + slots, ring.reset(3, slots), 4);
            for (int slot = 0; slot < slots; slot++) {
                Cases.is("working slot " + slot, ring.freeSlot(0, 1, true, false), slot);
                ring.addCircuit(0, 1, true, slot, false);
                Cases.is("protection slot " + slot, ring.freeSlot(0, 1, true, true), slot);
                ring.addCircuit(0, 1, true, slot, true);
            }
            Cases.is("working is full", ring.freeSlot(0, 1, true, false), NONE);
            Cases.is("protection is full", ring.freeSlot(0, 1, true, true), NONE);
            Cases.is("circuits", ring.circuitCount(), 2 * slots);
        }
    }

    // "BAD_VALUE if a parameter is out of range": both are
    static void promise02BothOutOfRange() {
        RingProtection ring = new RingProtection();
        Cases.is("both too small", ring.reset(2, 0), BAD_VALUE);
        Cases.is("both too large", ring.reset(9, 5), BAD_VALUE);
        Cases.is("one of each", ring.reset(9, 0), BAD_VALUE);
        Cases.is("turned round", ring.reset(2, 5), BAD_VALUE);
    }

    // "Returns the previous number of nodes": the same number again, least and greatest
    static void promise02AnswersPreviousNodes() {
        RingProtection ring = new RingProtection();
        Cases.is("4 to 8", ring.reset(8, 1), 4);
        Cases.is("8 to 8", ring.reset(8, 4), 8);
        Cases.is("8 to 3", ring.reset(3, 4), 8);
        Cases.is("3 to 3", ring.reset(3, 1), 3);
        ring.reset(9, 1);
        Cases.is("after a refused one", ring.reset(4, 1), 3);
    }

    // "A call that returns an error changes nothing."
    static void promise02RefusedChangesNothing() {
        int[][] bad = {{2, 1}, {9, 4}, {3, 0}, {8, 5}, {LEAST, LEAST}, {GREATEST, GREATEST}};
        for (int kind = 0; kind < Cases.BUSY; kind++) {
            RingProtection ring = Cases.busy(kind);
            for (int[] pair : bad) {
                ring.reset(pair[0], pair[1]);
            }
            Cases.same("refused resets", ring, Cases.busy(kind));
        }
    }

    // "Starts anew with another ring: no circuits, ...": of a full ring
    static void promise02NoCircuits() {
        RingProtection ring = Cases.fullRing();
        ring.reset(8, 2);
        Cases.is("count", ring.circuitCount(), 0);
        Cases.is("circuit 0", ring.pathLength(0), NO_SUCH_CIRCUIT);
        Cases.is("circuit 15", ring.pathLength(15), NO_SUCH_CIRCUIT);
        Cases.is("span 7", ring.circuitsOn(7), 0);
        Cases.is("a slot", ring.freeSlot(0, 1, true, false), 0);
        Cases.is("a number", ring.addCircuit(0, 1, true, 0, false), 0);
    }

    // the same: the kind of the old circuits is forgotten too
    static void promise02NoExtraCircuits() {
        RingProtection ring = new RingProtection();
        ring.addCircuit(0, 1, true, 0, true);
        ring.reset(4, 2);
        ring.addCircuit(0, 1, true, 0, false);
        Cases.is("working slot", ring.freeSlot(0, 1, true, false), 1);
        Cases.is("protection slot", ring.freeSlot(0, 1, true, true), 0);
        ring.failWorking(0, true);
        Cases.is("state of a normal one", ring.state(0), SPAN_PROTECTED);
    }

    // "... no failures, ..."
    static void promise02NoFailures() {
        RingProtection ring = Cases.ringOf(8, 1);
        for (int i = 0; i < 8; i++) {
            ring.failWorking(i, true);
            ring.failProtection(i, true);
            ring.failNode(i, true);
        }
        ring.reset(3, 1);
        ring.reset(8, 1);
        for (int i = 0; i < 8; i++) {
            Cases.is("request " + i, ring.request(i), NO_REQUEST);
            Cases.is("switch " + i, ring.switchOf(i), NO_SWITCH);
            Cases.is("segment " + i, ring.segment(i), 0);
        }
        Cases.is("nothing is down", ring.addCircuit(0, 7, true, 0, false), 0);
        Cases.is("state", ring.state(0), UNDISTURBED);
        Cases.is("nothing is down for an extra one", ring.addCircuit(0, 7, true, 0, true), 1);
        Cases.is("its state", ring.state(1), UNDISTURBED);
        for (int i = 0; i < 8; i++) {
            Cases.is("working mark " + i, ring.failWorking(i, false), 0);
            Cases.is("protection mark " + i, ring.failProtection(i, false), 0);
            Cases.is("node mark " + i, ring.failNode(i, false), 0);
        }
    }

    // "... no commands, ..."
    static void promise02NoCommands() {
        RingProtection ring = Cases.ringOf(8, 1);
        for (int span = 0; span < 8; span++) {
            ring.command(span, FORCED_RING);
        }
        ring.reset(3, 1);
        ring.reset(8, 1);
        for (int span = 0; span < 8; span++) {
            Cases.is("request " + span, ring.request(span), NO_REQUEST);
            Cases.is("segment " + span, ring.segment(span), 0);
            Cases.is("command " + span, ring.command(span, NO_REQUEST), NO_REQUEST);
        }
    }

    // "... all restore timers 0, ..."
    static void promise02TimersZero() {
        RingProtection ring = Cases.ringOf(8, 1);
        for (int span = 0; span < 8; span++) {
            Cases.failAndMend(ring, span);
            Cases.is("timer before, " + span, ring.restoreTimer(span), 5);
        }
        ring.reset(8, 1);
        for (int span = 0; span < 8; span++) {
            Cases.is("timer " + span, ring.restoreTimer(span), 0);
            Cases.is("request " + span, ring.request(span), NO_REQUEST);
            Cases.is("switch " + span, ring.switchOf(span), NO_SWITCH);
        }
    }

    // the same: a failure that a reset has taken away leaves no wait behind
    static void promise02NoWaitFromBefore() {
        RingProtection ring = new RingProtection();
        ring.failWorking(1, true);
        ring.reset(4, 2);
        ring.advance(1);
        Cases.is("timer", ring.restoreTimer(1), 0);
        Cases.is("switch", ring.switchOf(1), NO_SWITCH);
        Cases.is("request", ring.request(1), NO_REQUEST);
    }

    // "... clock 0."
    static void promise02ClockZero() {
        RingProtection ring = new RingProtection();
        ring.advance(100);
        ring.reset(4, 2);
        Cases.is("clock", ring.clock(), 0);
        Cases.is("the first second", ring.advance(1), 1);
    }

    // "The restore time ... do not change": its least and its greatest value
    static void promise02RestoreTimeStays() {
        int[] times = {0, 1, 60};
        for (int seconds : times) {
            RingProtection ring = new RingProtection();
            ring.setRestoreTime(seconds);
            ring.reset(3, 1);
            Cases.failAndMend(ring, 2);
            Cases.is("timer of " + seconds, ring.restoreTimer(2), seconds);
            Cases.is("restore time " + seconds, ring.setRestoreTime(5), seconds);
        }
    }

    // "... and the saved snapshots do not change": an empty slot stays empty, a full one full
    static void promise02SnapshotsStay() {
        RingProtection ring = Cases.ringOf(8, 4);
        ring.advance(7);
        ring.addCircuit(0, 7, true, 3, false);
        ring.save(1);
        ring.reset(3, 1);
        Cases.is("slot 0", ring.restore(0), NOT_SAVED);
        Cases.is("slot 1", ring.restore(1), 7);
        Cases.is("its circuit", ring.pathLength(0), 7);
    }

    // ---- promise 3: addCircuit

    // "NO_SUCH_NODE if one of the nodes does not exist": the first
    static void promise03NoFirstNode() {
        for (int nodes = 3; nodes <= 8; nodes++) {
            RingProtection ring = Cases.ringOf(nodes, 1);
            Cases.is("first end " + nodes, ring.addCircuit(nodes, 0, true, 0, false),
                NO_SUCH_NODE);
            Cases.is("first end -1", ring.addCircuit(-1, 0, false, 0, true), NO_SUCH_NODE);
            Cases.is("last node", ring.addCircuit(nodes - 1, 0, true, 0, false), 0);
        }
        for (int node : NEVER_A_NODE) {
            Cases.is("first end " + node,
                new RingProtection().addCircuit(node, 1, true, 0, false), NO_SUCH_NODE);
        }
    }

    // the same: the second
    static void promise03NoSecondNode() {
        for (int nodes = 3; nodes <= 8; nodes++) {
            RingProtection ring = Cases.ringOf(nodes, 1);
            Cases.is("second end " + nodes, ring.addCircuit(0, nodes, true, 0, false),
                NO_SUCH_NODE);
            Cases.is("second end -1", ring.addCircuit(0, -1, false, 0, true), NO_SUCH_NODE);
            Cases.is("last node", ring.addCircuit(0, nodes - 1, true, 0, false), 0);
        }
        for (int node : NEVER_A_NODE) {
            Cases.is("second end " + node,
                new RingProtection().addCircuit(1, node, true, 0, false), NO_SUCH_NODE);
        }
    }

    // "SAME_NODE if both ends are the same"
    static void promise03SameNode() {
        RingProtection ring = Cases.ringOf(8, 1);
        for (int node = 0; node < 8; node++) {
            Cases.is("clockwise " + node, ring.addCircuit(node, node, true, 0, false), SAME_NODE);
            Cases.is("extra " + node, ring.addCircuit(node, node, false, 0, true), SAME_NODE);
        }
    }

    // "BAD_VALUE if the slot does not exist"
    static void promise03NoSuchSlot() {
        for (int slots = 1; slots <= 4; slots++) {
            RingProtection ring = Cases.ringOf(4, slots);
            int[] bad = {-1, slots, slots + 1, 4, 31, 32, LEAST, GREATEST};
            for (int slot : bad) {
                Cases.is("slot " + slot + " of " + slots,
                    ring.addCircuit(0, 1, true, slot, false), BAD_VALUE);
                Cases.is("extra, slot " + slot + " of " + slots,
                    ring.addCircuit(0, 1, true, slot, true), BAD_VALUE);
            }
            Cases.is("last slot of " + slots, ring.addCircuit(0, 1, true, slots - 1, false), 0);
            Cases.is("extra, last slot", ring.addCircuit(0, 1, true, slots - 1, true), 1);
        }
    }

    // "TOO_MANY_CIRCUITS if there are 16 circuits"
    static void promise03TooManyCircuits() {
        RingProtection ring = Cases.ringOf(8, 3);
        for (int i = 0; i < 16; i++) {
            Cases.is("circuit " + i, ring.addCircuit(i % 8, (i + 1) % 8, true, i / 8, false), i);
        }
        Cases.is("a seventeenth", ring.addCircuit(0, 1, true, 2, false), TOO_MANY_CIRCUITS);
        Cases.is("an extra one", ring.addCircuit(0, 1, true, 0, true), TOO_MANY_CIRCUITS);
        ring.removeCircuit(3);
        Cases.is("room again", ring.addCircuit(0, 1, true, 2, false), 3);
        Cases.is("and none again", ring.addCircuit(0, 1, true, 0, true), TOO_MANY_CIRCUITS);
    }

    // the same: normal and extra circuits count together
    static void promise03ExtraCircuitsCountToo() {
        RingProtection ring = Cases.ringOf(8, 2);
        for (int i = 0; i < 8; i++) {
            ring.addCircuit(i, (i + 1) % 8, true, 0, false);
            Cases.is("extra " + i, ring.addCircuit(i, (i + 1) % 8, true, 0, true), 2 * i + 1);
        }
        Cases.is("normal", ring.addCircuit(0, 1, true, 1, false), TOO_MANY_CIRCUITS);
        Cases.is("extra", ring.addCircuit(0, 1, true, 1, true), TOO_MANY_CIRCUITS);
    }

    // "SLOT_IN_USE if another circuit of the same kind uses that slot on a span of the path":
    // a path that shares only its first or only its last span
    static void promise03SlotInUseOnOneSpan() {
        RingProtection ring = Cases.ringOf(8, 2);
        ring.addCircuit(2, 5, true, 1, false);
        Cases.is("its first span is shared", ring.addCircuit(4, 7, true, 1, false), SLOT_IN_USE);
        Cases.is("its last span is shared", ring.addCircuit(0, 3, true, 1, false), SLOT_IN_USE);
        Cases.is("within", ring.addCircuit(3, 4, true, 1, false), SLOT_IN_USE);
        Cases.is("around", ring.addCircuit(1, 6, true, 1, false), SLOT_IN_USE);
        Cases.is("the same path", ring.addCircuit(2, 5, true, 1, false), SLOT_IN_USE);
        Cases.is("the same path, turned", ring.addCircuit(5, 2, false, 1, false), SLOT_IN_USE);
        Cases.is("the other slot", ring.addCircuit(2, 5, true, 0, false), 1);
    }

    // the same: paths that meet in a node share no span
    static void promise03SlotFreeBesideThePath() {
        RingProtection ring = Cases.ringOf(8, 1);
        ring.addCircuit(2, 5, true, 0, false);
        Cases.is("from its end", ring.addCircuit(5, 7, true, 0, false), 1);
        Cases.is("to its beginning", ring.addCircuit(0, 2, true, 0, false), 2);
        Cases.is("the gap", ring.addCircuit(7, 0, true, 0, false), 3);
        Cases.is("nothing is left", ring.addCircuit(7, 0, true, 0, false), SLOT_IN_USE);
    }

    // the same: "of the same kind"
    static void promise03SlotInUseByKind() {
        RingProtection ring = Cases.ringOf(3, 1);
        Cases.is("normal", ring.addCircuit(0, 1, true, 0, false), 0);
        Cases.is("extra", ring.addCircuit(0, 1, true, 0, true), 1);
        Cases.is("normal again", ring.addCircuit(0, 1, true, 0, false), SLOT_IN_USE);
        Cases.is("extra again", ring.addCircuit(0, 1, true, 0, true), SLOT_IN_USE);
    }

    // "in the direction of ascending node numbers (from node n - 1 to node 0)": the wrap-around
    static void promise03ClockwiseOverTheLastSpan() {
        for (int nodes = 3; nodes <= 8; nodes++) {
            RingProtection ring = Cases.ringOf(nodes, 1);
            ring.addCircuit(nodes - 1, 1, true, 0, false);
            Cases.is("last span of " + nodes, ring.circuitsOn(nodes - 1), 1);
            Cases.is("span 0 of " + nodes, ring.circuitsOn(0), 1);
            for (int span = 1; span < nodes - 1; span++) {
                Cases.is("span " + span + " of " + nodes, ring.circuitsOn(span), 0);
            }
        }
    }

    // "If it is routed counterclockwise, its path consists of all the other spans."
    static void promise03CounterclockwiseTheOthers() {
        for (int nodes = 3; nodes <= 8; nodes++) {
            RingProtection ring = Cases.ringOf(nodes, 1);
            ring.addCircuit(nodes - 1, 1, false, 0, false);
            Cases.is("last span of " + nodes, ring.circuitsOn(nodes - 1), 0);
            Cases.is("span 0 of " + nodes, ring.circuitsOn(0), 0);
            for (int span = 1; span < nodes - 1; span++) {
                Cases.is("span " + span + " of " + nodes, ring.circuitsOn(span), 1);
            }
            Cases.is("the rest is free", ring.addCircuit(nodes - 1, 1, true, 0, false), 1);
        }
    }

    // "There are up to 16 circuits, numbered 0 to 15. A new circuit gets the smallest free number."
    static void promise03SmallestFreeNumber() {
        RingProtection ring = Cases.fullRing();
        ring.removeCircuit(15);
        ring.removeCircuit(0);
        ring.removeCircuit(7);
        Cases.is("first", ring.addCircuit(0, 1, true, 0, true), 0);
        Cases.is("middle", ring.addCircuit(1, 2, true, 0, true), 7);
        Cases.is("last", ring.addCircuit(2, 3, true, 0, true), 15);
    }

    // "When several errors apply, the method returns the one that its Javadoc lists first."
    static void promise03NoSuchNodeComesFirst() {
        RingProtection ring = Cases.fullRing();
        Cases.is("and same node", ring.addCircuit(8, 8, true, 0, false), NO_SUCH_NODE);
        Cases.is("and same node, below", ring.addCircuit(-1, -1, true, 0, false), NO_SUCH_NODE);
        Cases.is("and bad slot", ring.addCircuit(8, 0, true, 2, false), NO_SUCH_NODE);
        Cases.is("second, and bad slot", ring.addCircuit(0, 8, true, -1, false), NO_SUCH_NODE);
        Cases.is("and full", ring.addCircuit(-1, 0, true, 0, true), NO_SUCH_NODE);
        Cases.is("second, and full", ring.addCircuit(0, -1, true, 0, true), NO_SUCH_NODE);
    }

    // the same
    static void promise03SameNodeComesSecond() {
        RingProtection ring = Cases.fullRing();
        Cases.is("and full", ring.addCircuit(7, 7, true, 0, false), SAME_NODE);
        Cases.is("and bad slot", ring.addCircuit(0, 0, true, 2, true), SAME_NODE);
        Cases.is("bad slot, room", new RingProtection().addCircuit(0, 0, true, -1, true),
            SAME_NODE);
    }

    // the same
    static void promise03BadSlotComesThird() {
        RingProtection ring = Cases.fullRing();
        Cases.is("too great, and full", ring.addCircuit(0, 1, true, 2, false), BAD_VALUE);
        Cases.is("below 0, and full", ring.addCircuit(0, 1, true, -1, true), BAD_VALUE);
    }

    // the same
    static void promise03TooManyComesFourth() {
        RingProtection ring = Cases.fullRing();
        Cases.is("and slot in use", ring.addCircuit(0, 1, true, 1, false), TOO_MANY_CIRCUITS);
        ring.removeCircuit(1);
        Cases.is("slot in use alone", ring.addCircuit(0, 1, true, 1, false), SLOT_IN_USE);
    }

    // "A call that returns an error changes nothing."
    static void promise03RefusedChangesNothing() {
        for (int kind = 0; kind < Cases.BUSY; kind++) {
            RingProtection ring = Cases.busy(kind);
            ring.addCircuit(8, 0, true, 0, false);
            ring.addCircuit(0, -1, true, 0, true);
            ring.addCircuit(3, 3, false, 0, false);
            ring.addCircuit(0, 1, true, 4, false);
            ring.addCircuit(0, 1, true, -1, true);
            Cases.is("slot in use", ring.addCircuit(2, 3, true, kind == 0 ? 2 : 0, false),
                SLOT_IN_USE);
            Cases.same("refused circuits", ring, Cases.busy(kind));
        }
        RingProtection full = Cases.fullRing();
        full.addCircuit(0, 3, true, 0, true);
        full.addCircuit(0, 3, false, 1, false);
        Cases.same("a refused seventeenth", full, Cases.fullRing());
    }

    // ---- promise 4: removeCircuit

    // "NO_SUCH_CIRCUIT if there is no such circuit": no such number
    static void promise04NoSuchNumber() {
        RingProtection ring = Cases.fullRing();
        for (int circuit : NEVER_A_CIRCUIT) {
            Cases.is("circuit " + circuit, ring.removeCircuit(circuit), NO_SUCH_CIRCUIT);
        }
        Cases.is("circuit 15", ring.removeCircuit(15), 15);
    }

    // the same: a number that no circuit has, or has any more
    static void promise04NumberNotInUse() {
        RingProtection ring = new RingProtection();
        Cases.is("no circuits", ring.removeCircuit(0), NO_SUCH_CIRCUIT);
        ring.addCircuit(0, 1, true, 0, false);
        Cases.is("the next number", ring.removeCircuit(1), NO_SUCH_CIRCUIT);
        Cases.is("the only one", ring.removeCircuit(0), 0);
        Cases.is("twice", ring.removeCircuit(0), NO_SUCH_CIRCUIT);
        ring.addCircuit(0, 1, true, 0, true);
        ring.reset(4, 2);
        Cases.is("after a reset", ring.removeCircuit(0), NO_SUCH_CIRCUIT);
    }

    // "Returns the number of circuits that remain": from 16 down to 0
    static void promise04AnswersWhatRemains() {
        RingProtection ring = Cases.fullRing();
        for (int circuit = 0; circuit < 16; circuit++) {
            Cases.is("circuit " + circuit, ring.removeCircuit(circuit), 15 - circuit);
        }
        Cases.is("none is left", ring.circuitCount(), 0);
    }

    // "Removes a circuit": its slot is free at once, on every span, in its own kind
    static void promise04FreesTheSlot() {
        RingProtection ring = Cases.ringOf(3, 1);
        ring.addCircuit(0, 2, true, 0, false);
        ring.addCircuit(0, 2, true, 0, true);
        ring.removeCircuit(1);
        Cases.is("normal", ring.freeSlot(0, 1, true, false), NONE);
        Cases.is("extra, span 0", ring.freeSlot(0, 1, true, true), 0);
        Cases.is("extra, span 1", ring.freeSlot(1, 2, true, true), 0);
        Cases.is("no more on span 1", ring.circuitsOn(1), 0b01);
    }

    // "A call that returns an error changes nothing."
    static void promise04RefusedChangesNothing() {
        for (int kind = 0; kind < Cases.BUSY; kind++) {
            RingProtection ring = Cases.busy(kind);
            for (int circuit : NEVER_A_CIRCUIT) {
                ring.removeCircuit(circuit);
            }
            ring.removeCircuit(5);
            ring.removeCircuit(15);
            Cases.same("refused removals", ring, Cases.busy(kind));
        }
        RingProtection full = Cases.fullRing();
        full.removeCircuit(16);
        full.removeCircuit(-1);
        Cases.same("refused removals of a full ring", full, Cases.fullRing());
    }

    // ---- promise 5: circuitCount

    // "Returns the number of circuits": none, and 16
    static void promise05EmptyAndFull() {
        RingProtection ring = Cases.ringOf(8, 2);
        Cases.is("empty", ring.circuitCount(), 0);
        for (int i = 0; i < 16; i++) {
            ring.addCircuit(i % 8, (i + 1) % 8, true, i / 8, i % 3 == 0);
            Cases.is("after circuit " + i, ring.circuitCount(), i + 1);
        }
        ring.addCircuit(0, 1, true, 0, true);
        Cases.is("after one too many", ring.circuitCount(), 16);
    }

    // the same: refused calls do not count
    static void promise05RefusedDoNotCount() {
        RingProtection ring = new RingProtection();
        ring.addCircuit(0, 4, true, 0, false);
        ring.addCircuit(0, 0, true, 0, false);
        ring.addCircuit(0, 1, true, 2, false);
        Cases.is("refused", ring.circuitCount(), 0);
        ring.removeCircuit(0);
        Cases.is("nothing to remove", ring.circuitCount(), 0);
        ring.addCircuit(0, 1, true, 0, false);
        ring.addCircuit(0, 1, true, 0, false);
        Cases.is("slot in use", ring.circuitCount(), 1);
    }

    // ---- promise 6: freeSlot

    // "NO_SUCH_NODE if one of the nodes does not exist"
    static void promise06NoSuchNode() {
        for (int nodes = 3; nodes <= 8; nodes++) {
            RingProtection ring = Cases.ringOf(nodes, 1);
            Cases.is("first " + nodes, ring.freeSlot(nodes, 0, true, false), NO_SUCH_NODE);
            Cases.is("second " + nodes, ring.freeSlot(0, nodes, true, false), NO_SUCH_NODE);
            Cases.is("last node", ring.freeSlot(nodes - 1, 0, true, false), 0);
        }
        RingProtection ring = new RingProtection();
        for (int node : NEVER_A_NODE) {
            Cases.is("first " + node, ring.freeSlot(node, 1, false, true), NO_SUCH_NODE);
            Cases.is("second " + node, ring.freeSlot(1, node, false, true), NO_SUCH_NODE);
        }
    }

    // "SAME_NODE if both ends are the same"
    static void promise06SameNode() {
        RingProtection ring = Cases.ringOf(8, 1);
        for (int node = 0; node < 8; node++) {
            Cases.is("node " + node, ring.freeSlot(node, node, true, false), SAME_NODE);
            Cases.is("extra, node " + node, ring.freeSlot(node, node, false, true), SAME_NODE);
        }
    }

    // "NONE if there is no such slot": all in use, on one span or on several
    static void promise06None() {
        RingProtection ring = Cases.ringOf(5, 2);
        ring.addCircuit(0, 1, true, 0, false);
        ring.addCircuit(2, 3, true, 1, false);
        Cases.is("slots in use on different spans", ring.freeSlot(0, 3, true, false), NONE);
        Cases.is("without the last span", ring.freeSlot(0, 2, true, false), 1);
        Cases.is("without the first span", ring.freeSlot(1, 3, true, false), 0);
        Cases.is("the other kind", ring.freeSlot(0, 3, true, true), 0);
        ring.addCircuit(0, 1, true, 1, false);
        Cases.is("both in use on one span", ring.freeSlot(0, 1, true, false), NONE);
        Cases.is("around it", ring.freeSlot(0, 1, false, false), 0);
    }

    // the same: the ring's own number of slots is the limit
    static void promise06NoneForEveryNumberOfSlots() {
        for (int slots = 1; slots <= 4; slots++) {
            RingProtection ring = Cases.ringOf(3, slots);
            for (int slot = 0; slot < slots - 1; slot++) {
                ring.addCircuit(2, 0, true, slot, true);
            }
            Cases.is("the last of " + slots, ring.freeSlot(2, 0, true, true), slots - 1);
            ring.addCircuit(2, 0, true, slots - 1, true);
            Cases.is("all of " + slots, ring.freeSlot(2, 0, true, true), NONE);
        }
    }

    // "Returns the smallest slot that no circuit of the same kind uses on any span of the path"
    static void promise06Smallest() {
        RingProtection ring = Cases.ringOf(4, 4);
        ring.addCircuit(3, 0, true, 0, false);
        ring.addCircuit(3, 0, true, 2, false);
        Cases.is("a gap", ring.freeSlot(3, 0, true, false), 1);
        ring.addCircuit(0, 1, true, 1, false);
        Cases.is("the gap is in use on span 0", ring.freeSlot(3, 1, true, false), 3);
        ring.removeCircuit(0);
        Cases.is("the least is free again", ring.freeSlot(3, 1, true, false), 0);
        Cases.is("extra", ring.freeSlot(3, 1, true, true), 0);
    }

    // the same: TOO_MANY_CIRCUITS is none of its errors
    static void promise06WithSixteenCircuits() {
        RingProtection ring = Cases.fullRing();
        Cases.is("no slot for a normal one", ring.freeSlot(0, 1, true, false), NONE);
        Cases.is("a slot for an extra one", ring.freeSlot(0, 1, true, true), 0);
        ring.removeCircuit(15);
        Cases.is("the slot of circuit 15", ring.freeSlot(7, 0, true, false), 1);
    }

    // "When several errors apply, the method returns the one that its Javadoc lists first."
    static void promise06OrderOfErrors() {
        RingProtection ring = Cases.fullRing();
        Cases.is("no node and same", ring.freeSlot(8, 8, true, false), NO_SUCH_NODE);
        Cases.is("no node and same, below", ring.freeSlot(-1, -1, true, false), NO_SUCH_NODE);
        Cases.is("no node and no slot", ring.freeSlot(0, 8, true, false), NO_SUCH_NODE);
        Cases.is("same and no slot", ring.freeSlot(0, 0, true, false), SAME_NODE);
        Cases.is("same and no slot, the other way", ring.freeSlot(0, 0, false, false), SAME_NODE);
    }

    // "Finds a time slot": it takes none
    static void promise06ChangesNothing() {
        for (int kind = 0; kind < Cases.BUSY; kind++) {
            RingProtection ring = Cases.busy(kind);
            ring.freeSlot(0, 1, true, false);
            ring.freeSlot(2, 1, false, true);
            ring.freeSlot(8, 1, true, false);
            ring.freeSlot(1, 1, true, false);
            Cases.same("freeSlot", ring, Cases.busy(kind));
        }
    }

    // ---- promise 7: circuitsOn

    // "NO_SUCH_SPAN if the span does not exist"
    static void promise07NoSuchSpan() {
        for (int nodes = 3; nodes <= 8; nodes++) {
            RingProtection ring = Cases.ringOf(nodes, 1);
            ring.addCircuit(nodes - 1, 0, true, 0, false);
            Cases.is("span " + nodes, ring.circuitsOn(nodes), NO_SUCH_SPAN);
            Cases.is("last span of " + nodes, ring.circuitsOn(nodes - 1), 1);
        }
        for (int span : NEVER_A_NODE) {
            Cases.is("span " + span, new RingProtection().circuitsOn(span), NO_SUCH_SPAN);
        }
    }

    // "Returns the set of circuits": an empty one
    static void promise07EmptySet() {
        RingProtection ring = new RingProtection();
        Cases.is("no circuits", ring.circuitsOn(0), 0);
        ring.addCircuit(0, 3, true, 0, false);
        Cases.is("none on the last span", ring.circuitsOn(3), 0);
        ring.removeCircuit(0);
        Cases.is("removed", ring.circuitsOn(0), 0);
    }

    // "bit c is set if circuit c is in the set": bits 0 and 15
    static void promise07FirstAndLastBit() {
        RingProtection ring = Cases.fullRing();
        Cases.is("span 0", ring.circuitsOn(0), 0x0101);
        Cases.is("span 7", ring.circuitsOn(7), 0x8080);
        ring.removeCircuit(7);
        Cases.is("circuit 15 alone", ring.circuitsOn(7), 0x8000);
    }

    // the same: a span that is full in both capacities
    static void promise07FullSpan() {
        RingProtection ring = Cases.ringOf(3, 4);
        for (int slot = 0; slot < 4; slot++) {
            ring.addCircuit(2, 0, true, slot, false);
            ring.addCircuit(0, 2, false, slot, true);
        }
        Cases.is("span 2", ring.circuitsOn(2), 0xFF);
        Cases.is("span 0", ring.circuitsOn(0), 0);
    }

    // ---- promise 8: pathLength

    // "NO_SUCH_CIRCUIT if there is no such circuit"
    static void promise08NoSuchCircuit() {
        RingProtection ring = Cases.fullRing();
        for (int circuit : NEVER_A_CIRCUIT) {
            Cases.is("circuit " + circuit, ring.pathLength(circuit), NO_SUCH_CIRCUIT);
        }
        Cases.is("circuit 15", ring.pathLength(15), 1);
        ring.removeCircuit(15);
        Cases.is("removed", ring.pathLength(15), NO_SUCH_CIRCUIT);
        Cases.is("no circuits", new RingProtection().pathLength(0), NO_SUCH_CIRCUIT);
    }

    // "Returns the number of spans of the path": the shortest and the longest, over the last span
    static void promise08ShortestAndLongest() {
        for (int nodes = 3; nodes <= 8; nodes++) {
            RingProtection ring = Cases.ringOf(nodes, 1);
            ring.addCircuit(nodes - 1, 0, true, 0, false);
            ring.addCircuit(nodes - 1, 0, false, 0, false);
            ring.addCircuit(1, 0, true, 0, true);
            ring.addCircuit(1, 0, false, 0, true);
            Cases.is("one of " + nodes, ring.pathLength(0), 1);
            Cases.is("the others of " + nodes, ring.pathLength(1), nodes - 1);
            Cases.is("all but span 0 of " + nodes, ring.pathLength(2), nodes - 1);
            Cases.is("span 0 of " + nodes, ring.pathLength(3), 1);
        }
    }
}
