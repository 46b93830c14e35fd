/** The boundary cases of promises 9 to 15, each under the sentence of the document that names it. */
final class BoundaryFailuresTest implements Doc {
    private static final int[] NEVER_A_NUMBER = {-1, 8, 9, 31, 32, 33, LEAST, GREATEST};
    private static final int[] NO_COMMANDS =
        {WAIT_SPAN, WAIT_RING, FAIL_SPAN, FAIL_RING, -1, 10, 32, LEAST, GREATEST};

    public static void main(String[] args) throws IllegalAccessException {
        Cases.run(BoundaryFailuresTest.class, 9, 15);
    }

    // ---- promise 9: failWorking

    // "NO_SUCH_SPAN if the span does not exist"
    static void promise09NoSuchSpan() {
        for (int nodes = 3; nodes <= 8; nodes++) {
            RingProtection ring = Cases.ringOf(nodes, 1);
            Cases.is("mark " + nodes, ring.failWorking(nodes, true), NO_SUCH_SPAN);
            Cases.is("unmark " + nodes, ring.failWorking(nodes, false), NO_SUCH_SPAN);
            Cases.is("last span of " + nodes, ring.failWorking(nodes - 1, true), 0);
            Cases.is("its request", ring.request(nodes - 1), FAIL_SPAN);
        }
        for (int span : NEVER_A_NUMBER) {
            Cases.is("mark " + span, new RingProtection().failWorking(span, true), NO_SUCH_SPAN);
            Cases.is("unmark " + span, new RingProtection().failWorking(span, false),
                NO_SUCH_SPAN);
        }
    }

    // "Returns 1 if it was marked as failed before, otherwise 0": one mark, however often it is set
    static void promise09MarkedTwice() {
        RingProtection ring = new RingProtection();
        Cases.is("unmark the unmarked", ring.failWorking(3, false), 0);
        Cases.is("mark", ring.failWorking(3, true), 0);
        Cases.is("mark the marked", ring.failWorking(3, true), 1);
        Cases.is("unmark", ring.failWorking(3, false), 1);
        Cases.is("unmark once more", ring.failWorking(3, false), 0);
        Cases.is("mark again", ring.failWorking(3, true), 0);
    }

    // the same: the other mark and a failed node are none of its business
    static void promise09OnlyItsOwnMark() {
        RingProtection ring = new RingProtection();
        ring.failProtection(3, true);
        ring.failNode(3, true);
        ring.failNode(0, true);
        Cases.is("unmark", ring.failWorking(3, false), 0);
        Cases.is("mark", ring.failWorking(3, true), 0);
        Cases.is("a neighbour", ring.failWorking(2, true), 0);
        Cases.is("the other neighbour", ring.failWorking(0, true), 0);
        ring.failWorking(3, false);
        Cases.is("the protection mark stays", ring.failProtection(3, false), 1);
        Cases.is("the mark of node 3 stays", ring.failNode(3, false), 1);
        Cases.is("the mark of node 0 stays", ring.failNode(0, false), 1);
        Cases.is("the mark of span 2 stays", ring.failWorking(2, false), 1);
    }

    // "A call that returns an error changes nothing."
    static void promise09RefusedChangesNothing() {
        for (int kind = 0; kind < Cases.BUSY; kind++) {
            RingProtection ring = Cases.busy(kind);
            for (int span : NEVER_A_NUMBER) {
                ring.failWorking(span, true);
                ring.failWorking(span, false);
            }
            Cases.same("refused marks", ring, Cases.busy(kind));
        }
    }

    // the same: a mark on a span that a greater ring would have
    static void promise09NoMarkForLater() {
        RingProtection ring = Cases.ringOf(8, 1);
        ring.save(0);
        ring.reset(3, 1);
        ring.failWorking(3, true);
        ring.failWorking(7, true);
        ring.restore(0);
        Cases.is("span 3", ring.failWorking(3, false), 0);
        Cases.is("span 7", ring.failWorking(7, false), 0);
    }

    // "The controller runs after every call that changes a mark or a command": at once
    static void promise09RunsTheController() {
        RingProtection ring = new RingProtection();
        ring.failWorking(3, true);
        Cases.is("switch", ring.switchOf(3), SPAN_SWITCH);
        ring.setRestoreTime(0);
        ring.failWorking(3, false);
        Cases.is("no switch", ring.switchOf(3), NO_SWITCH);
    }

    // ---- promise 10: failProtection

    // "NO_SUCH_SPAN if the span does not exist"
    static void promise10NoSuchSpan() {
        for (int nodes = 3; nodes <= 8; nodes++) {
            RingProtection ring = Cases.ringOf(nodes, 1);
            Cases.is("mark " + nodes, ring.failProtection(nodes, true), NO_SUCH_SPAN);
            Cases.is("unmark " + nodes, ring.failProtection(nodes, false), NO_SUCH_SPAN);
            Cases.is("last span of " + nodes, ring.failProtection(nodes - 1, true), 0);
            Cases.is("its request", ring.request(nodes - 1), LOCKOUT);
        }
        for (int span : NEVER_A_NUMBER) {
            Cases.is("mark " + span, new RingProtection().failProtection(span, true),
                NO_SUCH_SPAN);
            Cases.is("unmark " + span, new RingProtection().failProtection(span, false),
                NO_SUCH_SPAN);
        }
    }

    // "Returns 1 if it was marked as failed before, otherwise 0"
    static void promise10MarkedTwice() {
        RingProtection ring = new RingProtection();
        Cases.is("unmark the unmarked", ring.failProtection(0, false), 0);
        Cases.is("mark", ring.failProtection(0, true), 0);
        Cases.is("mark the marked", ring.failProtection(0, true), 1);
        Cases.is("unmark", ring.failProtection(0, false), 1);
        Cases.is("unmark once more", ring.failProtection(0, false), 0);
        Cases.is("mark again", ring.failProtection(0, true), 0);
    }

    // the same: only its own mark
    static void promise10OnlyItsOwnMark() {
        RingProtection ring = new RingProtection();
        ring.failWorking(0, true);
        ring.failNode(0, true);
        ring.failNode(1, true);
        Cases.is("unmark", ring.failProtection(0, false), 0);
        Cases.is("mark", ring.failProtection(0, true), 0);
        Cases.is("a neighbour", ring.failProtection(1, true), 0);
        Cases.is("the other neighbour", ring.failProtection(3, true), 0);
        ring.failProtection(0, false);
        Cases.is("the working mark stays", ring.failWorking(0, false), 1);
        Cases.is("the mark of node 0 stays", ring.failNode(0, false), 1);
        Cases.is("the mark of node 1 stays", ring.failNode(1, false), 1);
        Cases.is("the mark of span 1 stays", ring.failProtection(1, false), 1);
    }

    // "A call that returns an error changes nothing."
    static void promise10RefusedChangesNothing() {
        for (int kind = 0; kind < Cases.BUSY; kind++) {
            RingProtection ring = Cases.busy(kind);
            for (int span : NEVER_A_NUMBER) {
                ring.failProtection(span, true);
                ring.failProtection(span, false);
            }
            Cases.same("refused marks", ring, Cases.busy(kind));
        }
    }

    // the same: a mark on a span that a greater ring would have
    static void promise10NoMarkForLater() {
        RingProtection ring = Cases.ringOf(8, 1);
        ring.save(0);
        ring.reset(3, 1);
        ring.failProtection(3, true);
        ring.failProtection(7, true);
        ring.restore(0);
        Cases.is("span 3", ring.failProtection(3, false), 0);
        Cases.is("span 7", ring.failProtection(7, false), 0);
    }

    // "The controller runs after every call that changes a mark or a command": at once
    static void promise10RunsTheController() {
        RingProtection ring = new RingProtection();
        ring.command(2, FORCED_RING);
        ring.failProtection(0, true);
        Cases.is("locked out", ring.switchOf(2), NO_SWITCH);
        ring.failProtection(0, false);
        Cases.is("free", ring.switchOf(2), RING_SWITCH);
    }

    // ---- promise 11: failNode

    // "NO_SUCH_NODE if the node does not exist"
    static void promise11NoSuchNode() {
        for (int nodes = 3; nodes <= 8; nodes++) {
            RingProtection ring = Cases.ringOf(nodes, 1);
            Cases.is("mark " + nodes, ring.failNode(nodes, true), NO_SUCH_NODE);
            Cases.is("unmark " + nodes, ring.failNode(nodes, false), NO_SUCH_NODE);
            Cases.is("last node of " + nodes, ring.failNode(nodes - 1, true), 0);
        }
        for (int node : NEVER_A_NUMBER) {
            Cases.is("mark " + node, new RingProtection().failNode(node, true), NO_SUCH_NODE);
            Cases.is("unmark " + node, new RingProtection().failNode(node, false), NO_SUCH_NODE);
        }
    }

    // "Returns 1 if it was marked as failed before, otherwise 0"
    static void promise11MarkedTwice() {
        RingProtection ring = new RingProtection();
        Cases.is("unmark the unmarked", ring.failNode(3, false), 0);
        Cases.is("mark", ring.failNode(3, true), 0);
        Cases.is("mark the marked", ring.failNode(3, true), 1);
        Cases.is("unmark", ring.failNode(3, false), 1);
        Cases.is("unmark once more", ring.failNode(3, false), 0);
        Cases.is("mark again", ring.failNode(3, true), 0);
    }

    // the same: spans that are down mark no node
    static void promise11OnlyItsOwnMark() {
        RingProtection ring = new RingProtection();
        Cases.cut(ring, 0, 3);
        Cases.is("between two cuts", ring.failNode(0, true), 0);
        Cases.is("a neighbour", ring.failNode(1, true), 0);
        Cases.is("the other neighbour", ring.failNode(3, true), 0);
        ring.failNode(0, false);
        Cases.is("the working mark of span 0 stays", ring.failWorking(0, false), 1);
        Cases.is("the protection mark of span 3 stays", ring.failProtection(3, false), 1);
        Cases.is("the mark of node 1 stays", ring.failNode(1, false), 1);
    }

    // "Span i connects node i and node (i + 1) mod n": the two spans of each node, with wrap-around
    static void promise11TheTwoSpansOfANode() {
        for (int nodes = 3; nodes <= 8; nodes++) {
            for (int node = 0; node < nodes; node++) {
                RingProtection ring = Cases.ringOf(nodes, 1);
                ring.failNode(node, true);
                for (int span = 0; span < nodes; span++) {
                    boolean ends = span == node || (span + 1) % nodes == node;
                    Cases.is("node " + node + " of " + nodes + ", span " + span,
                        ring.request(span), ends ? FAIL_RING : NO_REQUEST);
                }
            }
        }
    }

    // "... if it is marked as failed or if one of the two nodes of the span is marked as failed"
    static void promise11DownByEitherNode() {
        RingProtection ring = new RingProtection();
        ring.failNode(3, true);
        ring.failNode(0, true);
        ring.failNode(3, false);
        Cases.is("down by node 0", ring.request(3), FAIL_RING);
        ring.failNode(3, true);
        ring.failNode(0, false);
        Cases.is("down by node 3", ring.request(3), FAIL_RING);
        ring.failWorking(3, true);
        ring.failNode(3, false);
        Cases.is("working down by its mark", ring.request(3), FAIL_SPAN);
        ring.failWorking(3, false);
        Cases.is("up", ring.restoreTimer(3), 5);
    }

    // the same: all nodes
    static void promise11EveryNode() {
        RingProtection ring = Cases.ringOf(8, 1);
        for (int node = 0; node < 8; node++) {
            ring.failNode(node, true);
        }
        for (int i = 0; i < 8; i++) {
            Cases.is("span " + i, ring.switchOf(i), RING_SWITCH);
            Cases.is("node " + i, ring.segment(i), i);
        }
    }

    // "A call that returns an error changes nothing."
    static void promise11RefusedChangesNothing() {
        for (int kind = 0; kind < Cases.BUSY; kind++) {
            RingProtection ring = Cases.busy(kind);
            for (int node : NEVER_A_NUMBER) {
                ring.failNode(node, true);
                ring.failNode(node, false);
            }
            Cases.same("refused marks", ring, Cases.busy(kind));
        }
    }

    // the same: a mark on a node that a greater ring would have
    static void promise11NoMarkForLater() {
        RingProtection ring = Cases.ringOf(8, 1);
        ring.save(0);
        ring.reset(3, 1);
        ring.failNode(3, true);
        ring.failNode(7, true);
        ring.restore(0);
        Cases.is("node 3", ring.failNode(3, false), 0);
        Cases.is("node 7", ring.failNode(7, false), 0);
    }

    // ---- promise 12: command

    // "NO_SUCH_SPAN if the span does not exist"
    static void promise12NoSuchSpan() {
        for (int nodes = 3; nodes <= 8; nodes++) {
            RingProtection ring = Cases.ringOf(nodes, 1);
            Cases.is("span " + nodes, ring.command(nodes, LOCKOUT), NO_SUCH_SPAN);
            Cases.is("last span of " + nodes, ring.command(nodes - 1, LOCKOUT), NO_REQUEST);
            Cases.is("its request", ring.request(nodes - 1), LOCKOUT);
        }
        for (int span : NEVER_A_NUMBER) {
            Cases.is("span " + span, new RingProtection().command(span, NO_REQUEST),
                NO_SUCH_SPAN);
        }
    }

    // "BAD_VALUE if the command is none of these": the four other requests, and no requests at all
    static void promise12NoSuchCommand() {
        RingProtection ring = new RingProtection();
        for (int command : NO_COMMANDS) {
            Cases.is("command " + command, ring.command(0, command), BAD_VALUE);
            Cases.is("on the last span, " + command, ring.command(3, command), BAD_VALUE);
        }
    }

    // "NO_REQUEST, MANUAL_SPAN, MANUAL_RING, FORCED_SPAN, FORCED_RING or LOCKOUT": each one
    static void promise12EveryCommand() {
        int[] commands =
            {NO_REQUEST, MANUAL_SPAN, MANUAL_RING, FORCED_SPAN, FORCED_RING, LOCKOUT};
        int[] switches =
            {NO_SWITCH, SPAN_SWITCH, RING_SWITCH, SPAN_SWITCH, RING_SWITCH, NO_SWITCH};
        for (int i = 0; i < commands.length; i++) {
            RingProtection ring = new RingProtection();
            Cases.is("command " + commands[i], ring.command(3, commands[i]), NO_REQUEST);
            Cases.is("request " + commands[i], ring.request(3), commands[i]);
            Cases.is("switch of " + commands[i], ring.switchOf(3), switches[i]);
            Cases.is("the same again", ring.command(3, commands[i]), commands[i]);
            Cases.is("taken back", ring.command(3, NO_REQUEST), commands[i]);
            Cases.is("no switch any more", ring.switchOf(3), NO_SWITCH);
        }
    }

    // "When several errors apply, the method returns the one that its Javadoc lists first."
    static void promise12OrderOfErrors() {
        RingProtection ring = new RingProtection();
        for (int command : NO_COMMANDS) {
            Cases.is("span 4, command " + command, ring.command(4, command), NO_SUCH_SPAN);
            Cases.is("span -1, command " + command, ring.command(-1, command), NO_SUCH_SPAN);
        }
    }

    // "Returns the previous command": also one that does not apply
    static void promise12PreviousThatDoesNotApply() {
        RingProtection ring = new RingProtection();
        ring.command(1, FORCED_SPAN);
        ring.failProtection(1, true);
        Cases.is("it is another request", ring.request(1), LOCKOUT);
        Cases.is("the command is kept", ring.command(1, MANUAL_SPAN), FORCED_SPAN);
        Cases.is("and so is this one", ring.command(1, NO_REQUEST), MANUAL_SPAN);
    }

    // "Each span has one command"
    static void promise12EachSpanItsOwn() {
        int[] commands = {MANUAL_SPAN, MANUAL_RING, FORCED_SPAN, FORCED_RING, LOCKOUT,
            NO_REQUEST, MANUAL_SPAN, LOCKOUT};
        RingProtection ring = Cases.ringOf(8, 1);
        for (int span = 0; span < 8; span++) {
            ring.command(span, commands[span]);
        }
        for (int span = 0; span < 8; span++) {
            Cases.is("span " + span, ring.command(span, NO_REQUEST), commands[span]);
        }
    }

    // "A call that returns an error changes nothing."
    static void promise12RefusedChangesNothing() {
        for (int kind = 0; kind < Cases.BUSY; kind++) {
            RingProtection ring = Cases.busy(kind);
            for (int command : NO_COMMANDS) {
                ring.command(0, command);
                ring.command(4, command);
            }
            for (int span : NEVER_A_NUMBER) {
                ring.command(span, FORCED_RING);
            }
            Cases.same("refused commands", ring, Cases.busy(kind));
        }
    }

    // the same: a command on a span that a greater ring would have
    static void promise12NoCommandForLater() {
        RingProtection ring = Cases.ringOf(8, 1);
        ring.save(0);
        ring.reset(3, 1);
        ring.command(3, FORCED_RING);
        ring.command(7, FORCED_RING);
        ring.restore(0);
        Cases.is("span 3", ring.command(3, NO_REQUEST), NO_REQUEST);
        Cases.is("span 7", ring.command(7, NO_REQUEST), NO_REQUEST);
    }

    // ---- promise 13: setRestoreTime

    // "seconds: 0 to 60"; "BAD_VALUE if it is out of range": too small
    static void promise13TooSmall() {
        RingProtection ring = new RingProtection();
        int[] bad = {-1, -2, -60, LEAST};
        for (int seconds : bad) {
            Cases.is("" + seconds, ring.setRestoreTime(seconds), BAD_VALUE);
        }
    }

    // the same: too large
    static void promise13TooLarge() {
        RingProtection ring = new RingProtection();
        int[] bad = {61, 62, 100, GREATEST};
        for (int seconds : bad) {
            Cases.is("" + seconds, ring.setRestoreTime(seconds), BAD_VALUE);
        }
    }

    // "Returns the previous restore time": from the least to the greatest
    static void promise13EveryTime() {
        RingProtection ring = new RingProtection();
        for (int seconds = 0; seconds <= 60; seconds++) {
            Cases.is("" + seconds, ring.setRestoreTime(seconds), seconds == 0 ? 5 : seconds - 1);
        }
        Cases.is("60 again", ring.setRestoreTime(60), 60);
    }

    // "... and the restore time is above 0, then the restore timer is set": 0
    static void promise13ZeroMeansNoWait() {
        RingProtection ring = new RingProtection();
        ring.setRestoreTime(0);
        Cases.failAndMend(ring, 0);
        Cases.is("timer", ring.restoreTimer(0), 0);
        Cases.is("request", ring.request(0), NO_REQUEST);
        Cases.is("switch", ring.switchOf(0), NO_SWITCH);
    }

    // the same: 1, the least that is above 0
    static void promise13OneMeansOneSecond() {
        RingProtection ring = new RingProtection();
        ring.setRestoreTime(1);
        Cases.failAndMend(ring, 0);
        Cases.is("timer", ring.restoreTimer(0), 1);
        Cases.is("request", ring.request(0), WAIT_SPAN);
        ring.advance(1);
        Cases.is("timer a second on", ring.restoreTimer(0), 0);
        Cases.is("switch a second on", ring.switchOf(0), NO_SWITCH);
    }

    // the same: 60, the greatest
    static void promise13SixtyMeansAMinute() {
        RingProtection ring = new RingProtection();
        ring.setRestoreTime(60);
        Cases.failAndMend(ring, 0);
        Cases.is("timer", ring.restoreTimer(0), 60);
        ring.advance(59);
        Cases.is("switch in the last second", ring.switchOf(0), SPAN_SWITCH);
        ring.advance(1);
        Cases.is("switch a minute on", ring.switchOf(0), NO_SWITCH);
    }

    // "Timers that are running are not changed": neither up nor down nor to 0
    static void promise13RunningTimersStay() {
        int[] times = {0, 1, 4, 6, 60};
        for (int seconds : times) {
            RingProtection ring = new RingProtection();
            Cases.failAndMend(ring, 2);
            ring.setRestoreTime(seconds);
            Cases.is("timer at " + seconds, ring.restoreTimer(2), 5);
            Cases.is("request at " + seconds, ring.request(2), WAIT_SPAN);
            Cases.is("switch at " + seconds, ring.switchOf(2), SPAN_SWITCH);
            ring.advance(4);
            Cases.is("timer later at " + seconds, ring.restoreTimer(2), 1);
            Cases.is("switch later at " + seconds, ring.switchOf(2), SPAN_SWITCH);
            ring.advance(1);
            Cases.is("switch at the end at " + seconds, ring.switchOf(2), NO_SWITCH);
        }
    }

    // "A call that returns an error changes nothing."
    static void promise13RefusedChangesNothing() {
        for (int kind = 0; kind < Cases.BUSY; kind++) {
            RingProtection ring = Cases.busy(kind);
            ring.setRestoreTime(-1);
            ring.setRestoreTime(61);
            ring.setRestoreTime(LEAST);
            ring.setRestoreTime(GREATEST);
            Cases.same("refused restore times", ring, Cases.busy(kind));
        }
    }

    // ---- promise 14: advance

    // "seconds: 1 to 100"; "BAD_VALUE if the number is out of range": too small
    static void promise14TooSmall() {
        RingProtection ring = new RingProtection();
        int[] bad = {0, -1, -100, LEAST};
        for (int seconds : bad) {
            Cases.is("" + seconds, ring.advance(seconds), BAD_VALUE);
        }
    }

    // the same: too large
    static void promise14TooLarge() {
        RingProtection ring = new RingProtection();
        int[] bad = {101, 102, 1000, GREATEST};
        for (int seconds : bad) {
            Cases.is("" + seconds, ring.advance(seconds), BAD_VALUE);
        }
    }

    // "Returns the clock afterwards": the least and the greatest number
    static void promise14LeastAndGreatest() {
        RingProtection ring = new RingProtection();
        Cases.is("1", ring.advance(1), 1);
        Cases.is("100", ring.advance(100), 101);
        Cases.is("2", ring.advance(2), 103);
        Cases.is("99", ring.advance(99), 202);
    }

    // "A call that returns an error changes nothing."
    static void promise14RefusedChangesNothing() {
        for (int kind = 0; kind < Cases.BUSY; kind++) {
            RingProtection ring = Cases.busy(kind);
            ring.advance(0);
            ring.advance(101);
            ring.advance(-1);
            ring.advance(LEAST);
            ring.advance(GREATEST);
            Cases.same("refused seconds", ring, Cases.busy(kind));
        }
    }

    // "... decreases each restore timer that is above 0 by 1; then the controller runs": from 1 to 0
    static void promise14LastSecondOfATimer() {
        RingProtection ring = new RingProtection();
        Cases.failAndMend(ring, 3);
        ring.advance(4);
        Cases.is("timer", ring.restoreTimer(3), 1);
        Cases.is("request", ring.request(3), WAIT_SPAN);
        Cases.is("switch", ring.switchOf(3), SPAN_SWITCH);
        ring.advance(1);
        Cases.is("timer a second on", ring.restoreTimer(3), 0);
        Cases.is("request a second on", ring.request(3), NO_REQUEST);
        Cases.is("switch a second on", ring.switchOf(3), NO_SWITCH);
    }

    // the same: a timer that is 0 stays 0
    static void promise14TimerStaysAtZero() {
        RingProtection ring = new RingProtection();
        ring.advance(1);
        Cases.is("never set", ring.restoreTimer(0), 0);
        Cases.failAndMend(ring, 0);
        ring.advance(5);
        ring.advance(1);
        Cases.is("a second after its end", ring.restoreTimer(0), 0);
        Cases.failAndMend(ring, 0);
        ring.advance(100);
        Cases.is("over its end", ring.restoreTimer(0), 0);
        Cases.is("no switch", ring.switchOf(0), NO_SWITCH);
    }

    // the same: "each" timer, and many seconds are as many single ones
    static void promise14ManySecondsAreSingleOnes() {
        RingProtection ring = Cases.ringOf(8, 1);
        RingProtection twin = Cases.ringOf(8, 1);
        for (int span = 0; span < 8; span++) {
            ring.setRestoreTime(span);
            twin.setRestoreTime(span);
            Cases.failAndMend(ring, span);
            Cases.failAndMend(twin, span);
        }
        for (int span = 0; span < 8; span++) {
            Cases.is("timer " + span, ring.restoreTimer(span), span);
        }
        ring.advance(4);
        for (int second = 0; second < 4; second++) {
            twin.advance(1);
        }
        for (int span = 0; span < 8; span++) {
            Cases.is("timer four seconds on, " + span, ring.restoreTimer(span),
                Math.max(0, span - 4));
            Cases.is("switch four seconds on, " + span, ring.switchOf(span),
                span > 4 ? SPAN_SWITCH : NO_SWITCH);
        }
        Cases.same("four seconds", ring, twin);
    }

    // ---- promise 15: clock

    // "An object is used for at most 512 calls": the last of them answers as the first
    static void promise15FiveHundredAndTwelveCalls() {
        RingProtection ring = new RingProtection();
        for (int call = 1; call <= 511; call++) {
            Cases.is("call " + call, ring.advance(100), 100 * call);
        }
        Cases.is("call 512", ring.clock(), 51100);
        RingProtection other = new RingProtection();
        for (int call = 1; call <= 511; call++) {
            other.advance(100);
        }
        Cases.is("call 512 of another", other.advance(100), 51200);
    }

    // "the number of seconds simulated so far": none, by no other call
    static void promise15OnlyAdvanceMovesIt() {
        RingProtection ring = new RingProtection();
        Cases.is("new", ring.clock(), 0);
        ring.failWorking(0, true);
        ring.failProtection(1, true);
        ring.failNode(2, true);
        ring.command(3, LOCKOUT);
        ring.setRestoreTime(60);
        ring.deliveredIfCut(0);
        ring.worstCut();
        ring.save(0);
        Cases.is("after other calls", ring.clock(), 0);
        ring.advance(0);
        ring.advance(101);
        Cases.is("after refused seconds", ring.clock(), 0);
        ring.advance(1);
        Cases.is("after a second", ring.clock(), 1);
        Cases.is("asked twice", ring.clock(), 1);
    }

    // "clock 0" of reset, and "including ..." of restore: it goes back
    static void promise15GoesBack() {
        RingProtection ring = new RingProtection();
        ring.advance(3);
        ring.save(0);
        ring.advance(100);
        ring.restore(0);
        Cases.is("restored", ring.clock(), 3);
        ring.reset(4, 2);
        Cases.is("reset", ring.clock(), 0);
        ring.restore(0);
        Cases.is("forward again", ring.clock(), 3);
    }
}
