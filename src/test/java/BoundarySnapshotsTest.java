/** The boundary cases of promises 29 and 30, each under the sentence of the document that names it. */
final class BoundarySnapshotsTest implements Doc {
    private static final int[] NO_SLOTS = {-1, 2, 3, -2, 32, LEAST, GREATEST};

    public static void main(String[] args) throws IllegalAccessException {
        Cases.run(BoundarySnapshotsTest.class, 29, 30);
    }

    // ---- promise 29: save

    // "slot: 0 or 1"; "BAD_VALUE if the slot does not exist"
    static void promise29NoSuchSlot() {
        RingProtection ring = new RingProtection();
        for (int slot : NO_SLOTS) {
            Cases.is("slot " + slot, ring.save(slot), BAD_VALUE);
        }
        Cases.is("slot 0", ring.save(0), 0);
        Cases.is("slot 1", ring.save(1), 0);
    }

    // "A call that returns an error changes nothing": it saves nothing either
    static void promise29RefusedSavesNothing() {
        RingProtection ring = new RingProtection();
        for (int slot : NO_SLOTS) {
            ring.save(slot);
        }
        Cases.is("slot 0", ring.restore(0), NOT_SAVED);
        Cases.is("slot 1", ring.restore(1), NOT_SAVED);
        ring.save(0);
        ring.save(1);
        ring.advance(1);
        for (int slot : NO_SLOTS) {
            ring.save(slot);
        }
        Cases.is("slot 0 afterwards", ring.restore(0), 0);
        Cases.is("slot 1 afterwards", ring.restore(1), 0);
    }

    // the same, and "Saves the complete state": saving changes nothing but the slot
    static void promise29ChangesNothingElse() {
        for (int kind = 0; kind < Cases.BUSY; kind++) {
            RingProtection ring = Cases.busy(kind);
            for (int slot : NO_SLOTS) {
                ring.save(slot);
            }
            Cases.same("refused saves", ring, Cases.busy(kind));
        }
        RingProtection ring = Cases.busy(1);
        RingProtection twin = Cases.busy(1);
        twin.restore(0);
        twin.save(0);
        ring.restore(0);
        Cases.same("a save of what was saved", ring, twin);
    }

    // "Returns the clock"
    static void promise29AnswersTheClock() {
        RingProtection ring = new RingProtection();
        Cases.is("at 0", ring.save(0), 0);
        ring.advance(100);
        Cases.is("at 100", ring.save(0), 100);
        ring.reset(3, 1);
        Cases.is("after a reset", ring.save(1), 0);
        ring.restore(0);
        Cases.is("after restoring", ring.save(1), 100);
    }

    // "An earlier snapshot in that slot is overwritten": in that slot, not in the other
    static void promise29Overwrites() {
        RingProtection ring = new RingProtection();
        ring.addCircuit(0, 1, true, 0, false);
        ring.command(3, FORCED_RING);
        ring.save(0);
        ring.save(1);
        ring.reset(3, 1);
        ring.advance(9);
        ring.save(1);
        Cases.is("slot 0", ring.restore(0), 0);
        Cases.is("its circuit", ring.circuitCount(), 1);
        Cases.is("its command", ring.request(3), FORCED_RING);
        Cases.is("slot 1", ring.restore(1), 9);
        Cases.is("no circuit", ring.circuitCount(), 0);
        Cases.is("no span 3", ring.request(3), NO_SUCH_SPAN);
    }

    // "Saves the complete state, except for the snapshots"
    static void promise29ExceptForTheSnapshots() {
        RingProtection ring = new RingProtection();
        ring.save(0);
        ring.advance(1);
        ring.save(1);
        ring.advance(1);
        ring.restore(0);
        Cases.is("slot 1 was saved later, and stays", ring.restore(1), 1);
        Cases.is("slot 0 stays", ring.restore(0), 0);
        Cases.is("both are still there", ring.restore(1), 1);
    }

    // the same: what happens after saving does not reach the snapshot
    static void promise29IsACopy() {
        RingProtection ring = Cases.ringOf(8, 2);
        ring.addCircuit(0, 7, true, 1, false);
        ring.save(0);
        ring.removeCircuit(0);
        ring.addCircuit(3, 4, true, 0, true);
        for (int span = 0; span < 8; span++) {
            ring.failWorking(span, true);
            ring.failProtection(span, true);
            ring.failNode(span, true);
            ring.command(span, FORCED_RING);
        }
        ring.setRestoreTime(60);
        ring.advance(100);
        ring.restore(0);
        RingProtection twin = Cases.ringOf(8, 2);
        twin.addCircuit(0, 7, true, 1, false);
        twin.save(0);
        Cases.same("the saved ring", ring, twin);
    }

    // ---- promise 30: restore

    // "BAD_VALUE if the slot does not exist"
    static void promise30NoSuchSlot() {
        RingProtection ring = new RingProtection();
        ring.save(0);
        ring.save(1);
        for (int slot : NO_SLOTS) {
            Cases.is("slot " + slot, ring.restore(slot), BAD_VALUE);
        }
        Cases.is("slot 0", ring.restore(0), 0);
        Cases.is("slot 1", ring.restore(1), 0);
    }

    // "NOT_SAVED if nothing was saved in it": each slot for itself
    static void promise30NotSaved() {
        for (int slot = 0; slot < 2; slot++) {
            RingProtection ring = new RingProtection();
            Cases.is("slot " + slot, ring.restore(slot), NOT_SAVED);
            ring.save(1 - slot);
            Cases.is("only the other was saved, " + slot, ring.restore(slot), NOT_SAVED);
            Cases.is("the other", ring.restore(1 - slot), 0);
            Cases.is("restoring saves nothing, " + slot, ring.restore(slot), NOT_SAVED);
            ring.save(slot);
            Cases.is("saved " + slot, ring.restore(slot), 0);
        }
    }

    // "When several errors apply": where nothing is saved, a wrong slot is a wrong slot
    static void promise30OrderOfErrors() {
        RingProtection ring = new RingProtection();
        for (int slot : NO_SLOTS) {
            Cases.is("slot " + slot, ring.restore(slot), BAD_VALUE);
        }
    }

    // "A call that returns an error changes nothing."
    static void promise30RefusedChangesNothing() {
        for (int kind = 0; kind < Cases.BUSY; kind++) {
            RingProtection ring = Cases.busy(kind);
            for (int slot : NO_SLOTS) {
                ring.restore(slot);
            }
            if (kind == 0) {
                Cases.is("nothing in slot 1", ring.restore(1), NOT_SAVED);
            }
            Cases.same("refused", ring, Cases.busy(kind));
        }
    }

    // "including the number of nodes, ...": from the least ring to the greatest and back
    static void promise30NumberOfNodes() {
        RingProtection ring = Cases.ringOf(8, 1);
        ring.addCircuit(6, 7, true, 0, false);
        ring.save(0);
        ring.reset(3, 1);
        ring.save(1);
        ring.restore(0);
        Cases.is("node 7", ring.segment(7), 0);
        Cases.is("span 7", ring.request(7), NO_REQUEST);
        Cases.is("over span 6", ring.circuitsOn(6), 1);
        ring.restore(1);
        Cases.is("node 3", ring.segment(3), NO_SUCH_NODE);
        Cases.is("node 2", ring.segment(2), 0);
        Cases.is("no circuit", ring.state(0), NO_SUCH_CIRCUIT);
        Cases.is("a wrap-around of three", ring.addCircuit(2, 1, true, 0, false), 0);
        Cases.is("its length", ring.pathLength(0), 2);
        Cases.is("nodes", ring.reset(4, 1), 3);
    }

    // "... the number of time slots ...": from the least to the greatest and back
    static void promise30NumberOfSlots() {
        RingProtection ring = Cases.ringOf(4, 4);
        ring.save(0);
        ring.reset(4, 1);
        ring.save(1);
        ring.restore(0);
        Cases.is("slot 3", ring.addCircuit(0, 1, true, 3, false), 0);
        Cases.is("slot 4", ring.addCircuit(0, 1, true, 4, false), BAD_VALUE);
        ring.restore(1);
        Cases.is("slot 1", ring.addCircuit(0, 1, true, 1, false), BAD_VALUE);
        Cases.is("slot 0", ring.addCircuit(0, 1, true, 0, false), 0);
    }

    // "... and the restore time": from the least to the greatest and back
    static void promise30RestoreTime() {
        RingProtection ring = new RingProtection();
        ring.setRestoreTime(0);
        ring.save(0);
        ring.setRestoreTime(60);
        ring.save(1);
        ring.restore(0);
        Cases.failAndMend(ring, 0);
        Cases.is("no wait", ring.restoreTimer(0), 0);
        Cases.is("0", ring.setRestoreTime(5), 0);
        ring.restore(1);
        Cases.failAndMend(ring, 0);
        Cases.is("a long wait", ring.restoreTimer(0), 60);
        Cases.is("60", ring.setRestoreTime(5), 60);
    }

    // "Restores the state that was saved": circuits, from 16 to none and back
    static void promise30Circuits() {
        RingProtection ring = Cases.fullRing();
        ring.save(0);
        ring.reset(8, 2);
        ring.save(1);
        ring.restore(0);
        Cases.is("16", ring.circuitCount(), 16);
        Cases.is("full", ring.addCircuit(0, 1, true, 0, true), TOO_MANY_CIRCUITS);
        Cases.is("circuits on span 7", ring.circuitsOn(7), 0x8080);
        ring.restore(1);
        Cases.is("none", ring.circuitCount(), 0);
        Cases.is("the first number", ring.addCircuit(7, 0, true, 1, true), 0);
        ring.restore(0);
        Cases.is("a normal one again", ring.freeSlot(7, 0, true, true), 0);
        Cases.is("in slot 0", ring.freeSlot(7, 0, true, false), NONE);
    }

    // the same: a busy ring, marks, commands, waits and all
    static void promise30BusyRing() {
        for (int kind = 0; kind < Cases.BUSY; kind++) {
            RingProtection ring = Cases.busy(kind);
            ring.save(1);
            ring.reset(3, 1);
            ring.setRestoreTime(0);
            Cases.cut(ring, 0, 1, 2);
            ring.command(0, MANUAL_RING);
            ring.advance(1);
            ring.restore(1);
            RingProtection twin = Cases.busy(kind);
            twin.save(1);
            Cases.same("kind " + kind, ring, twin);
        }
    }

    // the same: a running wait with its kind and its last second
    static void promise30RunningWaits() {
        RingProtection ring = new RingProtection();
        ring.failNode(0, true);
        ring.failNode(0, false);
        ring.advance(4);
        ring.save(0);
        ring.advance(1);
        Cases.failAndMend(ring, 0);
        ring.save(1);
        ring.restore(0);
        Cases.is("ring wait", ring.request(0), WAIT_RING);
        Cases.is("its last second", ring.restoreTimer(0), 1);
        Cases.is("its switch", ring.switchOf(0), RING_SWITCH);
        ring.restore(1);
        Cases.is("span wait", ring.request(0), WAIT_SPAN);
        Cases.is("its first second", ring.restoreTimer(0), 5);
        Cases.is("its switch", ring.switchOf(0), SPAN_SWITCH);
        ring.restore(0);
        ring.advance(1);
        Cases.is("over", ring.switchOf(0), NO_SWITCH);
    }

    // the same: "the direct request at the end of the previous run" and its switch are part of it
    static void promise30PreviousRun() {
        RingProtection ring = new RingProtection();
        ring.failWorking(3, true);
        ring.save(0);
        ring.reset(4, 2);
        ring.save(1);
        ring.restore(0);
        ring.failWorking(3, false);
        Cases.is("the failure is known", ring.restoreTimer(3), 5);
        ring.restore(0);
        ring.restore(1);
        ring.advance(1);
        Cases.is("no failure is known", ring.restoreTimer(3), 0);
        Cases.is("no switch", ring.switchOf(3), NO_SWITCH);
    }

    // "The snapshot stays saved": restored any number of times
    static void promise30StaysSaved() {
        RingProtection ring = new RingProtection();
        ring.advance(7);
        ring.save(1);
        for (int time = 0; time < 5; time++) {
            Cases.is("time " + time, ring.restore(1), 7);
            Cases.is("no circuit yet", ring.addCircuit(0, 1, true, 0, false), 0);
            ring.command(0, FORCED_RING);
            ring.advance(1);
        }
        Cases.is("twice in a row", ring.restore(1), 7);
        Cases.is("twice in a row", ring.restore(1), 7);
    }

    // "Returns the clock after restoring": a later and an earlier one
    static void promise30AnswersTheClock() {
        RingProtection ring = new RingProtection();
        ring.save(0);
        ring.advance(100);
        ring.save(1);
        Cases.is("back", ring.restore(0), 0);
        Cases.is("clock", ring.clock(), 0);
        Cases.is("forth", ring.restore(1), 100);
        Cases.is("clock", ring.clock(), 100);
        Cases.is("and on", ring.advance(1), 101);
    }

    // "it may be one of another ring": planning and states are those of the restored ring
    static void promise30AnotherRing() {
        RingProtection ring = Cases.ringOf(8, 1);
        ring.addCircuit(7, 0, true, 0, false);
        ring.failNode(7, true);
        ring.save(0);
        ring.reset(3, 4);
        ring.addCircuit(2, 0, true, 3, true);
        ring.restore(0);
        Cases.is("state", ring.state(0), SQUELCHED);
        Cases.is("segment of node 7", ring.segment(7), 7);
        Cases.is("segment of node 6", ring.segment(6), 0);
        Cases.is("squelched at node 7", ring.squelchedAt(7), 1);
        Cases.is("cut 5", ring.deliveredIfCut(5), 0);
        Cases.is("mended", ring.failNode(7, false), 1);
        Cases.is("it waits", ring.request(6), WAIT_RING);
        Cases.is("delivered", ring.deliveredCount(), 1);
    }
}
