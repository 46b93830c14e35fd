/** The boundary cases of promises 20 to 25, each under the sentence of the document that names it. */
final class BoundaryStatesTest implements Doc {
    private static final int[] NEVER_A_NUMBER = {-1, 8, 9, 31, 32, 33, LEAST, GREATEST};
    private static final int[] NEVER_A_CIRCUIT = {-1, -32, 16, 17, 32, LEAST, GREATEST};

    public static void main(String[] args) throws IllegalAccessException {
        Cases.run(BoundaryStatesTest.class, 20, 25);
    }

    /**
     * Spans 0 and 3 have ring switches; circuits 0 to 4 are undisturbed, preempted, ring
     * protected, squelched and lost.
     */
    private static RingProtection ringSwitched() {
        RingProtection ring = Cases.ringOf(6, 2);
        ring.addCircuit(5, 0, true, 0, false);
        ring.addCircuit(1, 2, true, 0, true);
        ring.addCircuit(1, 3, false, 1, false);
        ring.addCircuit(0, 2, true, 0, false);
        ring.addCircuit(2, 3, true, 0, false);
        Cases.cut(ring, 0, 3);
        ring.failWorking(2, true);
        return ring;
    }

    /**
     * Span 1 has a span switch; circuits 0 to 3 are undisturbed, span protected, preempted and
     * lost.
     */
    private static RingProtection spanSwitched() {
        RingProtection ring = Cases.ringOf(6, 2);
        ring.addCircuit(5, 1, true, 0, false);
        ring.addCircuit(1, 4, true, 0, false);
        ring.addCircuit(1, 2, true, 0, true);
        ring.addCircuit(2, 3, true, 0, true);
        ring.failWorking(1, true);
        ring.failProtection(2, true);
        return ring;
    }

    // ---- promise 20: state

    // "NO_SUCH_CIRCUIT if there is no such circuit"
    static void promise20NoSuchCircuit() {
        RingProtection ring = Cases.fullRing();
        for (int circuit : NEVER_A_CIRCUIT) {
            Cases.is("circuit " + circuit, ring.state(circuit), NO_SUCH_CIRCUIT);
        }
        Cases.is("circuit 15", ring.state(15), UNDISTURBED);
        ring.removeCircuit(15);
        Cases.is("removed", ring.state(15), NO_SUCH_CIRCUIT);
        Cases.is("no circuits", new RingProtection().state(0), NO_SUCH_CIRCUIT);
    }

    // "1. If a span of its path has RING_SWITCH and its ends are in different segments": both ways
    static void promise20SquelchedBothWays() {
        RingProtection ring = Cases.ringOf(6, 1);
        ring.addCircuit(0, 3, true, 0, false);
        ring.addCircuit(0, 3, false, 0, false);
        Cases.cut(ring, 1);
        Cases.is("one switch", ring.state(0), RING_PROTECTED);
        Cases.is("one switch off the path", ring.state(1), UNDISTURBED);
        Cases.cut(ring, 5);
        Cases.is("two switches", ring.state(0), SQUELCHED);
        Cases.is("two switches, the other way", ring.state(1), SQUELCHED);
    }

    // the same: a failed node is a segment of its own, also the first and the last one
    static void promise20SquelchedAtAFailedEnd() {
        for (int node = 0; node < 8; node++) {
            RingProtection ring = Cases.ringOf(8, 3);
            ring.addCircuit(node, (node + 1) % 8, true, 0, false);
            ring.addCircuit((node + 7) % 8, node, false, 1, false);
            ring.addCircuit((node + 7) % 8, (node + 1) % 8, true, 2, false);
            ring.failNode(node, true);
            Cases.is("first end " + node, ring.state(0), SQUELCHED);
            Cases.is("second end " + node, ring.state(1), SQUELCHED);
            Cases.is("passes " + node, ring.state(2), RING_PROTECTED);
        }
    }

    // the same: two switches on the path, and the ends in the same segment
    static void promise20NotSquelchedInOneSegment() {
        RingProtection ring = Cases.ringOf(6, 1);
        ring.addCircuit(5, 3, true, 0, false);
        Cases.cut(ring, 5, 2);
        Cases.is("the switches at its ends", ring.state(0), RING_PROTECTED);
        Cases.cut(ring, 1);
        Cases.is("a third between them", ring.state(0), RING_PROTECTED);
        Cases.cut(ring, 4);
        Cases.is("a fourth off the path, between its ends", ring.state(0), SQUELCHED);
    }

    // "the first rule that applies decides": 1 before 2
    static void promise20SquelchedBeforeLost() {
        RingProtection ring = Cases.ringOf(6, 1);
        ring.addCircuit(0, 3, true, 0, false);
        Cases.cut(ring, 1);
        ring.failWorking(0, true);
        Cases.is("lost", ring.state(0), LOST);
        Cases.cut(ring, 4);
        Cases.is("squelched", ring.state(0), SQUELCHED);
    }

    // "2. If the working capacity of some span of its path is down, and that span has NO_SWITCH"
    static void promise20LostWithoutASwitch() {
        RingProtection ring = new RingProtection();
        ring.addCircuit(3, 1, true, 0, false);
        ring.addCircuit(3, 1, false, 0, false);
        ring.command(2, LOCKOUT);
        Cases.cut(ring, 3);
        Cases.is("first span of the path", ring.state(0), LOST);
        Cases.is("off the path", ring.state(1), UNDISTURBED);
        ring.failProtection(3, false);
        Cases.is("a span switch", ring.state(0), SPAN_PROTECTED);
        ring.command(2, NO_REQUEST);
        ring.failProtection(3, true);
        Cases.is("a ring switch", ring.state(0), RING_PROTECTED);
    }

    // the same: only the protection capacity is down
    static void promise20ProtectionDownLosesNothing() {
        RingProtection ring = new RingProtection();
        ring.addCircuit(3, 1, true, 0, false);
        ring.failProtection(3, true);
        ring.failProtection(0, true);
        Cases.is("no switch", ring.state(0), UNDISTURBED);
    }

    // "(when a span of the path has RING_SWITCH) both nodes of that span are in the segment of the
    // ends": a span down within it, and one beyond the switches, at each place of the ring
    static void promise20LostInTheSegmentOfTheEnds() {
        for (int turn = 0; turn < 8; turn++) {
            String at = ", turned by " + turn;
            RingProtection ring = Cases.ringOf(8, 1);
            ring.addCircuit((7 + turn) % 8, (5 + turn) % 8, true, 0, false);
            Cases.cut(ring, turn, (3 + turn) % 8);
            Cases.is("switched" + at, ring.state(0), RING_PROTECTED);
            ring.failWorking((1 + turn) % 8, true);
            ring.failWorking((2 + turn) % 8, true);
            Cases.is("down beyond the switches" + at, ring.state(0), RING_PROTECTED);
            ring.failWorking((7 + turn) % 8, true);
            Cases.is("down before the first switch" + at, ring.state(0), LOST);
            ring.failWorking((7 + turn) % 8, false);
            Cases.is("up again" + at, ring.state(0), RING_PROTECTED);
            ring.failWorking((4 + turn) % 8, true);
            Cases.is("down behind the last switch" + at, ring.state(0), LOST);
        }
    }

    // the same: with one switch alone every span is in the segment of the ends
    static void promise20LostBesideOneRingSwitch() {
        RingProtection ring = Cases.ringOf(8, 1);
        ring.addCircuit(0, 4, true, 0, false);
        Cases.cut(ring, 1);
        ring.failWorking(6, true);
        Cases.is("down off the path", ring.state(0), RING_PROTECTED);
        ring.failWorking(3, true);
        Cases.is("down on the path", ring.state(0), LOST);
    }

    // the same: no switch on the path, so the segments do not matter
    static void promise20LostOffTheRingSwitches() {
        RingProtection ring = Cases.ringOf(8, 1);
        ring.addCircuit(2, 4, true, 0, false);
        ring.addCircuit(5, 7, true, 0, false);
        Cases.cut(ring, 0, 4);
        ring.failWorking(3, true);
        Cases.is("in the segment of nodes 1 to 4", ring.state(0), LOST);
        ring.failWorking(6, true);
        Cases.is("in the segment over the last span", ring.state(1), LOST);
    }

    // "the first rule that applies decides": 2 before 4
    static void promise20LostBeforeSpanProtected() {
        RingProtection ring = new RingProtection();
        ring.addCircuit(3, 1, true, 0, false);
        ring.command(3, FORCED_SPAN);
        Cases.is("protected", ring.state(0), SPAN_PROTECTED);
        Cases.cut(ring, 0);
        Cases.is("lost", ring.state(0), LOST);
    }

    // "3. If a span of its path has RING_SWITCH, it is RING_PROTECTED": the first or the last span
    static void promise20RingProtectedAtTheEdges() {
        for (int span = 0; span < 8; span++) {
            RingProtection ring = Cases.ringOf(8, 1);
            ring.addCircuit(6, 1, true, 0, false);
            ring.command(span, FORCED_RING);
            boolean onPath = span >= 6 || span == 0;
            Cases.is("switch " + span, ring.state(0), onPath ? RING_PROTECTED : UNDISTURBED);
        }
    }

    // "4. If a span of its path has SPAN_SWITCH, it is SPAN_PROTECTED": the first or the last span
    static void promise20SpanProtectedAtTheEdges() {
        for (int span = 0; span < 8; span++) {
            RingProtection ring = Cases.ringOf(8, 1);
            ring.addCircuit(6, 1, true, 0, false);
            ring.command(span, FORCED_SPAN);
            boolean onPath = span >= 6 || span == 0;
            Cases.is("switch " + span, ring.state(0), onPath ? SPAN_PROTECTED : UNDISTURBED);
        }
    }

    // "if any span of the ring has RING_SWITCH, or a span of its path has SPAN_SWITCH": any span
    static void promise20ExtraPreemptedByAnyRingSwitch() {
        for (int span = 0; span < 8; span++) {
            RingProtection ring = Cases.ringOf(8, 1);
            ring.addCircuit(6, 1, true, 0, true);
            ring.command(span, FORCED_RING);
            Cases.is("switch " + span, ring.state(0), PREEMPTED);
        }
    }

    // the same: of its path
    static void promise20ExtraPreemptedBySpanSwitchOnThePath() {
        for (int span = 0; span < 8; span++) {
            RingProtection ring = Cases.ringOf(8, 1);
            ring.addCircuit(6, 1, true, 0, true);
            ring.command(span, MANUAL_SPAN);
            boolean onPath = span >= 6 || span == 0;
            Cases.is("switch " + span, ring.state(0), onPath ? PREEMPTED : UNDISTURBED);
        }
    }

    // "Otherwise, if the protection capacity of a span of its path is down, it is LOST."
    static void promise20ExtraLost() {
        for (int span = 0; span < 8; span++) {
            RingProtection ring = Cases.ringOf(8, 1);
            ring.addCircuit(6, 1, true, 0, true);
            ring.failProtection(span, true);
            boolean onPath = span >= 6 || span == 0;
            Cases.is("protection " + span, ring.state(0), onPath ? LOST : UNDISTURBED);
        }
    }

    // the same: down by a node, where a lockout keeps the ring switches away
    static void promise20ExtraLostByANode() {
        for (int node = 0; node < 8; node++) {
            RingProtection ring = Cases.ringOf(8, 1);
            ring.addCircuit(6, 1, true, 0, true);
            ring.command(3, LOCKOUT);
            ring.failNode(node, true);
            boolean onPath = node >= 6 || node <= 1;
            Cases.is("node " + node, ring.state(0), onPath ? LOST : UNDISTURBED);
        }
    }

    // the same: "Otherwise"
    static void promise20ExtraPreemptedBeforeLost() {
        RingProtection ring = new RingProtection();
        ring.addCircuit(3, 1, true, 0, true);
        ring.failProtection(0, true);
        Cases.is("lost", ring.state(0), LOST);
        ring.command(3, FORCED_SPAN);
        Cases.is("span switch on the path", ring.state(0), PREEMPTED);
        ring.command(3, NO_REQUEST);
        ring.failWorking(0, true);
        Cases.is("ring switch on the path", ring.state(0), PREEMPTED);
    }

    // "Otherwise it is UNDISTURBED": the working capacity is none of its business
    static void promise20ExtraNeedsNoWorkingCapacity() {
        RingProtection ring = new RingProtection();
        ring.addCircuit(3, 1, true, 0, true);
        ring.failWorking(0, true);
        ring.command(0, LOCKOUT);
        Cases.is("working down, no switch", ring.state(0), UNDISTURBED);
    }

    // ---- promise 21: circuitsIn

    // "state: UNDISTURBED to PREEMPTED"; "BAD_VALUE if there is no such state"
    static void promise21NoSuchState() {
        RingProtection ring = Cases.fullRing();
        int[] bad = {-1, 6, 7, -3, 31, 32, LEAST, GREATEST};
        for (int state : bad) {
            Cases.is("state " + state, ring.circuitsIn(state), BAD_VALUE);
        }
        Cases.is("the first state", ring.circuitsIn(UNDISTURBED), 0xFFFF);
        Cases.is("the last state", ring.circuitsIn(PREEMPTED), 0);
    }

    // "Returns the set of circuits": an empty one; a number without a circuit is in no state
    static void promise21EmptySet() {
        RingProtection ring = new RingProtection();
        for (int state = UNDISTURBED; state <= PREEMPTED; state++) {
            Cases.is("no circuits, state " + state, ring.circuitsIn(state), 0);
        }
        ring.addCircuit(0, 1, true, 0, false);
        ring.addCircuit(0, 1, true, 0, true);
        ring.removeCircuit(0);
        Cases.is("one removed", ring.circuitsIn(UNDISTURBED), 0b10);
        ring.command(0, FORCED_RING);
        Cases.is("normal ones", ring.circuitsIn(RING_PROTECTED), 0);
        Cases.is("extra ones", ring.circuitsIn(PREEMPTED), 0b10);
    }

    // "bit c is set if circuit c is in the set": bits 0 and 15, all bits
    static void promise21FirstAndLastBit() {
        RingProtection ring = Cases.fullRing();
        Cases.is("all", ring.circuitsIn(UNDISTURBED), 0xFFFF);
        ring.failWorking(7, true);
        Cases.is("over span 7", ring.circuitsIn(SPAN_PROTECTED), 0x8080);
        Cases.is("the others", ring.circuitsIn(UNDISTURBED), 0x7F7F);
        ring.failWorking(0, true);
        Cases.is("over spans 0 and 7", ring.circuitsIn(SPAN_PROTECTED), 0x8181);
        for (int span = 0; span < 8; span++) {
            Cases.cut(ring, span);
        }
        Cases.is("all squelched", ring.circuitsIn(SQUELCHED), 0xFFFF);
    }

    // "the circuits that are in a state": each circuit is in one, and each state is found
    static void promise21EveryState() {
        RingProtection ring = ringSwitched();
        Cases.is("undisturbed", ring.circuitsIn(UNDISTURBED), 0b00001);
        Cases.is("span protected", ring.circuitsIn(SPAN_PROTECTED), 0);
        Cases.is("ring protected", ring.circuitsIn(RING_PROTECTED), 0b00100);
        Cases.is("squelched", ring.circuitsIn(SQUELCHED), 0b01000);
        Cases.is("lost", ring.circuitsIn(LOST), 0b10000);
        Cases.is("preempted", ring.circuitsIn(PREEMPTED), 0b00010);
        ring = spanSwitched();
        Cases.is("undisturbed", ring.circuitsIn(UNDISTURBED), 0b0001);
        Cases.is("span protected", ring.circuitsIn(SPAN_PROTECTED), 0b0010);
        Cases.is("ring protected", ring.circuitsIn(RING_PROTECTED), 0);
        Cases.is("squelched", ring.circuitsIn(SQUELCHED), 0);
        Cases.is("lost", ring.circuitsIn(LOST), 0b1000);
        Cases.is("preempted", ring.circuitsIn(PREEMPTED), 0b0100);
    }

    // ---- promise 22: deliveredCount

    // "Returns the number of delivered circuits": of none, and of 16
    static void promise22NoneAndAll() {
        Cases.is("no circuits", new RingProtection().deliveredCount(), 0);
        RingProtection ring = Cases.fullRing();
        Cases.is("all 16", ring.deliveredCount(), 16);
        ring.removeCircuit(15);
        Cases.is("one removed", ring.deliveredCount(), 15);
        for (int node = 0; node < 8; node++) {
            ring.failNode(node, true);
        }
        Cases.is("all squelched", ring.deliveredCount(), 0);
    }

    // "A circuit is delivered if its state is UNDISTURBED, SPAN_PROTECTED or RING_PROTECTED."
    static void promise22StateByState() {
        RingProtection ring = ringSwitched();
        int[] left = {2, 1, 1, 0, 0, 0};
        for (int circuit = 0; circuit < 5; circuit++) {
            Cases.is("ring switched, from circuit " + circuit, ring.deliveredCount(),
                left[circuit]);
            ring.removeCircuit(circuit);
            Cases.is("without circuit " + circuit, ring.deliveredCount(), left[circuit + 1]);
        }
        ring = spanSwitched();
        left = new int[] {2, 1, 0, 0, 0};
        for (int circuit = 0; circuit < 4; circuit++) {
            Cases.is("span switched, from circuit " + circuit, ring.deliveredCount(),
                left[circuit]);
            ring.removeCircuit(circuit);
            Cases.is("without circuit " + circuit, ring.deliveredCount(), left[circuit + 1]);
        }
    }

    // ---- promise 23: hops

    // "NO_SUCH_CIRCUIT if there is no such circuit"
    static void promise23NoSuchCircuit() {
        RingProtection ring = Cases.fullRing();
        for (int circuit : NEVER_A_CIRCUIT) {
            Cases.is("circuit " + circuit, ring.hops(circuit), NO_SUCH_CIRCUIT);
        }
        Cases.is("circuit 15", ring.hops(15), 1);
        ring.removeCircuit(15);
        Cases.is("removed", ring.hops(15), NO_SUCH_CIRCUIT);
        Cases.is("no circuits", new RingProtection().hops(0), NO_SUCH_CIRCUIT);
    }

    // "NONE if it is not delivered": squelched, lost, preempted
    static void promise23NotDelivered() {
        RingProtection ring = ringSwitched();
        Cases.is("preempted", ring.hops(1), NONE);
        Cases.is("squelched", ring.hops(3), NONE);
        Cases.is("lost", ring.hops(4), NONE);
        ring = spanSwitched();
        Cases.is("preempted by a span switch", ring.hops(2), NONE);
        Cases.is("extra and lost", ring.hops(3), NONE);
    }

    // "It is the length of the path, unless the circuit is RING_PROTECTED."
    static void promise23LengthOfThePath() {
        RingProtection ring = spanSwitched();
        Cases.is("undisturbed", ring.hops(0), 2);
        Cases.is("span protected", ring.hops(1), 3);
        Cases.is("undisturbed beside ring switches", ringSwitched().hops(0), 1);
        ring = Cases.ringOf(8, 1);
        ring.addCircuit(0, 7, true, 0, false);
        ring.addCircuit(7, 0, true, 0, false);
        Cases.is("longest", ring.hops(0), 7);
        Cases.is("shortest", ring.hops(1), 1);
    }

    // "the number of spans of the path whose two nodes both are in the segment of the ends and that
    // do not have RING_SWITCH, plus the number of all spans of the ring for which this holds":
    // one switch, so that the segment is the whole ring
    static void promise23OneRingSwitch() {
        for (int nodes = 3; nodes <= 8; nodes++) {
            RingProtection ring = Cases.ringOf(nodes, 1);
            ring.addCircuit(0, nodes - 1, true, 0, false);
            ring.addCircuit(nodes - 1, 0, true, 0, false);
            ring.command(nodes - 2, FORCED_RING);
            Cases.is("longest of " + nodes, ring.hops(0), nodes - 2 + nodes - 1);
            ring.command(nodes - 2, NO_REQUEST);
            ring.command(nodes - 1, FORCED_RING);
            Cases.is("shortest of " + nodes, ring.hops(1), nodes - 1);
        }
    }

    // the same: two switches on the path, at each place of the ring, and a segment of one span
    static void promise23TwoRingSwitches() {
        for (int turn = 0; turn < 8; turn++) {
            RingProtection ring = Cases.ringOf(8, 1);
            ring.addCircuit((6 + turn) % 8, (4 + turn) % 8, true, 0, false);
            Cases.cut(ring, turn, (3 + turn) % 8);
            Cases.is("2 spans there, 4 around, turned by " + turn, ring.hops(0), 2 + 4);
        }
        RingProtection ring = Cases.ringOf(3, 1);
        ring.addCircuit(0, 1, false, 0, false);
        ring.failNode(2, true);
        Cases.is("span 0 alone is left", ring.hops(0), 1);
        Cases.is("two switches at the ends", ringSwitched().hops(2), 2);
    }

    // the same: switches on the path that lie beyond the segment of the ends
    static void promise23SwitchesBeyond() {
        RingProtection ring = Cases.ringOf(8, 1);
        ring.addCircuit(7, 6, true, 0, false);
        Cases.cut(ring, 1, 2, 4);
        Cases.is("spans 7, 0 and 5, then 5 to 0", ring.hops(0), 3 + 4);
    }

    // ---- promise 24: averageHops

    // "or NONE if no circuit is delivered": none at all, or none of them
    static void promise24None() {
        Cases.is("no circuits", new RingProtection().averageHops(), NONE);
        RingProtection ring = Cases.ringOf(3, 1);
        ring.addCircuit(0, 1, true, 0, false);
        ring.addCircuit(1, 2, true, 0, true);
        for (int node = 0; node < 3; node++) {
            ring.failNode(node, true);
        }
        Cases.is("squelched and preempted", ring.averageHops(), NONE);
        ring.removeCircuit(0);
        Cases.is("preempted", ring.averageHops(), NONE);
    }

    // "Returns 100 times the average number of hops ..., rounded down"
    static void promise24RoundedDown() {
        RingProtection ring = Cases.ringOf(8, 4);
        ring.addCircuit(0, 1, true, 0, false);
        Cases.is("1", ring.averageHops(), 100);
        ring.addCircuit(1, 2, true, 0, false);
        ring.addCircuit(2, 4, true, 0, false);
        Cases.is("4 over 3, 133.3", ring.averageHops(), 133);
        ring.addCircuit(0, 2, true, 1, false);
        ring.removeCircuit(0);
        Cases.is("5 over 3, 166.7", ring.averageHops(), 166);
        ring.addCircuit(4, 5, true, 0, false);
        ring.addCircuit(5, 6, true, 0, false);
        ring.addCircuit(6, 7, true, 0, false);
        ring.addCircuit(7, 0, true, 0, false);
        Cases.is("9 over 7, 128.6", ring.averageHops(), 128);
    }

    // the same: "of all delivered circuits", not of the others
    static void promise24OnlyTheDelivered() {
        Cases.is("1 and 2", ringSwitched().averageHops(), 150);
        Cases.is("2 and 3", spanSwitched().averageHops(), 250);
    }

    // the same: 16 circuits
    static void promise24SixteenCircuits() {
        RingProtection ring = Cases.fullRing();
        Cases.is("all of one hop", ring.averageHops(), 100);
        ring.command(7, FORCED_RING);
        Cases.is("14 of one and 2 of seven hops", ring.averageHops(), 175);
    }

    // ---- promise 25: squelchedAt

    // "NO_SUCH_NODE if the node does not exist"
    static void promise25NoSuchNode() {
        for (int nodes = 3; nodes <= 8; nodes++) {
            RingProtection ring = Cases.ringOf(nodes, 1);
            ring.addCircuit(nodes - 1, 0, true, 0, false);
            ring.failNode(0, true);
            Cases.is("node " + nodes, ring.squelchedAt(nodes), NO_SUCH_NODE);
            Cases.is("last node of " + nodes, ring.squelchedAt(nodes - 1), 1);
        }
        for (int node : NEVER_A_NUMBER) {
            Cases.is("node " + node, new RingProtection().squelchedAt(node), NO_SUCH_NODE);
        }
    }

    // "Returns the set of circuits": an empty one, of no circuits or of none squelched
    static void promise25EmptySet() {
        RingProtection ring = new RingProtection();
        Cases.is("quiet", ring.squelchedAt(0), 0);
        ring.failNode(0, true);
        Cases.is("no circuits", ring.squelchedAt(0), 0);
        ring.addCircuit(3, 1, true, 0, false);
        ring.addCircuit(3, 1, true, 0, true);
        for (int node = 0; node < 4; node++) {
            Cases.is("ring protected and preempted, node " + node, ring.squelchedAt(node), 0);
        }
    }

    // "those whose path contains a span with RING_SWITCH that ends at this node": its two nodes,
    // also those of the last span
    static void promise25BothNodesOfTheSpan() {
        for (int span = 0; span < 8; span++) {
            RingProtection ring = Cases.ringOf(8, 1);
            ring.addCircuit(span, (span + 1) % 8, true, 0, false);
            Cases.cut(ring, span, (span + 4) % 8);
            for (int node = 0; node < 8; node++) {
                boolean ends = node == span || node == (span + 1) % 8;
                Cases.is("span " + span + ", node " + node, ring.squelchedAt(node),
                    ends ? 1 : 0);
            }
        }
    }

    // the same: a switch that ends at the node but lies off the path, and a span of the path that
    // ends at the node but has no switch
    static void promise25SpanOfThePathWithTheSwitch() {
        RingProtection ring = Cases.ringOf(8, 1);
        ring.addCircuit(6, 2, true, 0, false);
        Cases.cut(ring, 0, 5);
        Cases.is("squelched", ring.state(0), SQUELCHED);
        Cases.is("node 5", ring.squelchedAt(5), 0);
        Cases.is("node 6", ring.squelchedAt(6), 0);
        Cases.is("node 7", ring.squelchedAt(7), 0);
        Cases.is("node 0", ring.squelchedAt(0), 1);
        Cases.is("node 1", ring.squelchedAt(1), 1);
        Cases.is("node 2", ring.squelchedAt(2), 0);
    }

    // "bit c is set if circuit c is in the set": bits 0 and 15
    static void promise25FirstAndLastBit() {
        RingProtection ring = Cases.fullRing();
        ring.failNode(0, true);
        Cases.is("node 7", ring.squelchedAt(7), 0x8080);
        Cases.is("node 0", ring.squelchedAt(0), 0x8181);
        Cases.is("node 1", ring.squelchedAt(1), 0x0101);
        Cases.is("node 2", ring.squelchedAt(2), 0);
    }
}
