/** Promises 9 to 15: marks, commands, the restore time and the clock. */
public final class FailuresAndTimeTest {
    private static final int[] NO_NUMBERS =
        {-1, 4, 7, 8, 32, Integer.MIN_VALUE, Integer.MAX_VALUE};
    private static final Due due = new Due();

    public static void main(String[] args) {
        failWorking();
        failProtection();
        failNode();
        nodeMarksAreSeparate();
        command();
        commandFaults();
        setRestoreTime();
        setRestoreTimeTouchesNoTimer();
        restoreTimeZero();
        advance();
        advanceStepsBySeconds();
        clock();
        due.end();
    }

    private static void failWorking() {
        RingProtection ring = new RingProtection();
        due.is(9, "mark", ring.failWorking(3, true), 0);
        due.is(9, "mark again", ring.failWorking(3, true), 1);
        due.is(9, "request", ring.request(3), RingProtection.FAIL_SPAN);
        due.is(9, "its neighbour", ring.request(2), RingProtection.NO_REQUEST);
        due.is(9, "another mark", ring.failWorking(2, false), 0);
        due.is(9, "unmark", ring.failWorking(3, false), 1);
        due.is(9, "unmark again", ring.failWorking(3, false), 0);
        due.is(9, "request afterwards", ring.request(3), RingProtection.WAIT_SPAN);
        due.is(9, "the protection mark is its own", ring.failProtection(3, false), 0);
        for (int span : NO_NUMBERS) {
            due.is(9, "span " + span, ring.failWorking(span, true), RingProtection.NO_SUCH_SPAN);
        }
    }

    private static void failProtection() {
        RingProtection ring = new RingProtection();
        due.is(10, "mark", ring.failProtection(0, true), 0);
        due.is(10, "mark again", ring.failProtection(0, true), 1);
        due.is(10, "request", ring.request(0), RingProtection.LOCKOUT);
        due.is(10, "its neighbour", ring.request(1), RingProtection.NO_REQUEST);
        due.is(10, "the working mark is its own", ring.failWorking(0, false), 0);
        due.is(10, "unmark", ring.failProtection(0, false), 1);
        due.is(10, "unmark again", ring.failProtection(0, false), 0);
        due.is(10, "request afterwards", ring.request(0), RingProtection.NO_REQUEST);
        due.is(10, "no wait after a lockout", ring.restoreTimer(0), 0);
        for (int span : NO_NUMBERS) {
            due.is(10, "span " + span, ring.failProtection(span, true),
                RingProtection.NO_SUCH_SPAN);
        }
    }

    private static void failNode() {
        RingProtection ring = new RingProtection();
        due.is(11, "mark", ring.failNode(0, true), 0);
        due.is(11, "mark again", ring.failNode(0, true), 1);
        due.is(11, "the span after it", ring.request(0), RingProtection.FAIL_RING);
        due.is(11, "the span before it", ring.request(3), RingProtection.FAIL_RING);
        due.is(11, "span 1", ring.request(1), RingProtection.NO_REQUEST);
        due.is(11, "span 2", ring.request(2), RingProtection.NO_REQUEST);
        due.is(11, "unmark", ring.failNode(0, false), 1);
        due.is(11, "unmark again", ring.failNode(0, false), 0);
        due.is(11, "span 0 waits", ring.request(0), RingProtection.WAIT_RING);
        due.is(11, "span 3 waits no more", ring.request(3), RingProtection.NO_REQUEST);
        for (int node : NO_NUMBERS) {
            due.is(11, "node " + node, ring.failNode(node, true), RingProtection.NO_SUCH_NODE);
        }
    }

    private static void nodeMarksAreSeparate() {
        RingProtection ring = new RingProtection();
        ring.reset(6, 1);
        ring.failNode(2, true);
        due.is(11, "no working mark on span 2", ring.failWorking(2, true), 0);
        due.is(11, "no protection mark on span 1", ring.failProtection(1, false), 0);
        ring.failNode(3, true);
        ring.failNode(2, false);
        due.is(11, "span 2 is still down by node 3", ring.request(2), RingProtection.FAIL_RING);
        ring.failNode(3, false);
        due.is(11, "span 2 is still down by its mark", ring.request(2), RingProtection.FAIL_SPAN);
        due.is(11, "the mark outlived the node", ring.failWorking(2, false), 1);

        ring.reset(8, 1);
        ring.failNode(1, true);
        ring.failNode(4, true);
        int[] requests = {6, 6, 0, 6, 6, 0, 0, 0};
        for (int span = 0; span < 8; span++) {
            due.is(11, "two nodes down, span " + span, ring.request(span), requests[span]);
        }
    }

    private static void command() {
        RingProtection ring = new RingProtection();
        int[] commands = {RingProtection.MANUAL_SPAN, RingProtection.MANUAL_RING,
            RingProtection.FORCED_SPAN, RingProtection.FORCED_RING, RingProtection.LOCKOUT,
            RingProtection.NO_REQUEST};
        int previous = RingProtection.NO_REQUEST;
        for (int command : commands) {
            due.is(12, "command " + command, ring.command(1, command), previous);
            due.is(12, "request " + command, ring.request(1), command);
            due.is(12, "its neighbour", ring.request(2), RingProtection.NO_REQUEST);
            previous = command;
        }
        ring.command(0, RingProtection.MANUAL_SPAN);
        ring.failProtection(0, true);
        due.is(12, "a command that does not apply is kept", ring.command(0, 0),
            RingProtection.MANUAL_SPAN);
        ring.command(2, RingProtection.FORCED_RING);
        due.is(12, "each span has its own", ring.command(3, 0), RingProtection.NO_REQUEST);
        due.is(12, "span 2", ring.command(2, RingProtection.FORCED_RING),
            RingProtection.FORCED_RING);
    }

    private static void commandFaults() {
        RingProtection ring = new RingProtection();
        ring.command(1, RingProtection.FORCED_SPAN);
        int[] bad = {RingProtection.WAIT_SPAN, RingProtection.WAIT_RING, RingProtection.FAIL_SPAN,
            RingProtection.FAIL_RING, 10, -1, Integer.MIN_VALUE, Integer.MAX_VALUE};
        for (int command : bad) {
            due.is(12, "command " + command, ring.command(1, command), RingProtection.BAD_VALUE);
        }
        due.is(12, "unchanged", ring.request(1), RingProtection.FORCED_SPAN);
        for (int span : NO_NUMBERS) {
            due.is(12, "span " + span, ring.command(span, RingProtection.LOCKOUT),
                RingProtection.NO_SUCH_SPAN);
            due.is(12, "span " + span + " first", ring.command(span, -1),
                RingProtection.NO_SUCH_SPAN);
        }
    }

    private static void setRestoreTime() {
        RingProtection ring = new RingProtection();
        due.is(13, "0", ring.setRestoreTime(0), 5);
        due.is(13, "60", ring.setRestoreTime(60), 0);
        int[] bad = {-1, 61, Integer.MIN_VALUE, Integer.MAX_VALUE};
        for (int seconds : bad) {
            due.is(13, "" + seconds, ring.setRestoreTime(seconds), RingProtection.BAD_VALUE);
        }
        ring.failWorking(0, true);
        ring.failWorking(0, false);
        due.is(13, "timer", ring.restoreTimer(0), 60);
        due.is(13, "7", ring.setRestoreTime(7), 60);
    }

    private static void setRestoreTimeTouchesNoTimer() {
        RingProtection ring = new RingProtection();
        ring.failWorking(0, true);
        ring.failWorking(0, false);
        ring.advance(1);
        ring.setRestoreTime(30);
        due.is(13, "running timer", ring.restoreTimer(0), 4);
        ring.setRestoreTime(0);
        due.is(13, "running timer, time 0", ring.restoreTimer(0), 4);
        due.is(13, "still waiting", ring.request(0), RingProtection.WAIT_SPAN);
        ring.advance(3);
        due.is(13, "last second", ring.switchOf(0), RingProtection.SPAN_SWITCH);
        ring.advance(1);
        due.is(13, "over", ring.switchOf(0), RingProtection.NO_SWITCH);
    }

    private static void restoreTimeZero() {
        RingProtection ring = new RingProtection();
        ring.setRestoreTime(0);
        ring.failWorking(0, true);
        ring.failWorking(0, false);
        due.is(13, "no timer", ring.restoreTimer(0), 0);
        due.is(13, "no request", ring.request(0), RingProtection.NO_REQUEST);
        due.is(13, "no switch", ring.switchOf(0), RingProtection.NO_SWITCH);
        ring.failWorking(0, true);
        ring.setRestoreTime(1);
        ring.failWorking(0, false);
        due.is(13, "the time at the moment of repair counts", ring.restoreTimer(0), 1);
    }

    private static void advance() {
        RingProtection ring = new RingProtection();
        due.is(14, "1", ring.advance(1), 1);
        due.is(14, "100", ring.advance(100), 101);
        int[] bad = {0, -1, 101, Integer.MIN_VALUE, Integer.MAX_VALUE};
        for (int seconds : bad) {
            due.is(14, "" + seconds, ring.advance(seconds), RingProtection.BAD_VALUE);
        }
        due.is(14, "clock unchanged by wrong calls", ring.clock(), 101);
        ring.failWorking(2, true);
        due.is(14, "with a failure", ring.advance(100), 201);
        due.is(14, "a failure lasts", ring.switchOf(2), RingProtection.SPAN_SWITCH);
        ring.failWorking(2, false);
        ring.advance(0);
        due.is(14, "a wrong call counts no timer down", ring.restoreTimer(2), 5);
        ring.advance(2);
        due.is(14, "two seconds", ring.restoreTimer(2), 3);
        ring.advance(100);
        due.is(14, "the timer stops at 0", ring.restoreTimer(2), 0);
    }

    private static void advanceStepsBySeconds() {
        RingProtection ring = new RingProtection();
        ring.failWorking(0, true);
        ring.failWorking(1, true);
        ring.failWorking(0, false);
        ring.advance(2);
        ring.failWorking(1, false);
        ring.command(2, RingProtection.MANUAL_RING);
        due.is(14, "a manual ring switch beats the waits", ring.switchOf(2),
            RingProtection.RING_SWITCH);
        due.is(14, "so the waits end", ring.restoreTimer(0) + ring.restoreTimer(1), 0);
        ring.command(2, RingProtection.NO_REQUEST);

        ring.failWorking(0, true);
        ring.failWorking(1, true);
        ring.failWorking(0, false);
        ring.advance(2);
        ring.failWorking(1, false);
        due.is(14, "span 0 waits", ring.restoreTimer(0), 3);
        due.is(14, "span 1 waits", ring.restoreTimer(1), 5);
        ring.advance(3);
        due.is(14, "span 0 is free", ring.switchOf(0), RingProtection.NO_SWITCH);
        due.is(14, "span 1 is not", ring.switchOf(1), RingProtection.SPAN_SWITCH);
        due.is(14, "timer of span 1", ring.restoreTimer(1), 2);
        ring.advance(2);
        due.is(14, "span 1 is free too", ring.switchOf(1), RingProtection.NO_SWITCH);
    }

    private static void clock() {
        RingProtection ring = new RingProtection();
        due.is(15, "new", ring.clock(), 0);
        ring.failNode(1, true);
        due.is(15, "a failure takes no time", ring.clock(), 0);
        ring.advance(40);
        ring.advance(2);
        due.is(15, "sum", ring.clock(), 42);
        due.is(15, "asked again", ring.clock(), 42);
        ring.reset(3, 1);
        due.is(15, "after reset", ring.clock(), 0);
    }
}
