/** Promises 16 to 19: requests, switches, restore timers and segments. */
public final class RequestsTest {
    private static final int NO = RingProtection.NO_SWITCH;
    private static final int SPAN = RingProtection.SPAN_SWITCH;
    private static final int RING = RingProtection.RING_SWITCH;
    private static final Due due = new Due();

    public static void main(String[] args) {
        wrongNumbers();
        requestsOfFailures();
        requestsOfCommandsAndFailures();
        spanCommandsWithoutProtection();
        lockoutStopsRingSwitches();
        lockoutLetsSpanSwitchesBe();
        ringSwitchesTogether();
        onlyOneManualRing();
        manualRingYieldsToRingSwitches();
        spanSwitchesTogether();
        spanAgainstRing();
        equalRequestsInSpanOrder();
        waitAfterSpanSwitch();
        waitAfterRingSwitch();
        noWaitWithoutSwitch();
        noWaitAfterCommand();
        noWaitIntoAnotherRequest();
        waitEndsByNewRequest();
        waitEndsByLostSwitch();
        waitRanksLowest();
        timersOfSeveralSpans();
        segments();
        due.end();
    }

    private static RingProtection ringOf(int nodes) {
        RingProtection ring = new RingProtection();
        ring.reset(nodes, 4);
        return ring;
    }

    private static void cut(RingProtection ring, int span, boolean failed) {
        ring.failWorking(span, failed);
        ring.failProtection(span, failed);
    }

    private static void switchesAre(String what, RingProtection ring, int... switches) {
        for (int span = 0; span < switches.length; span++) {
            due.is(17, what + ": switchOf " + span, ring.switchOf(span), switches[span]);
        }
    }

    private static void wrongNumbers() {
        RingProtection ring = ringOf(5);
        int[] none = {-1, 5, 8, 32, 33, Integer.MIN_VALUE, Integer.MAX_VALUE};
        for (int number : none) {
            due.is(16, "request " + number, ring.request(number), RingProtection.NO_SUCH_SPAN);
            due.is(17, "switchOf " + number, ring.switchOf(number), RingProtection.NO_SUCH_SPAN);
            due.is(18, "restoreTimer " + number, ring.restoreTimer(number),
                RingProtection.NO_SUCH_SPAN);
            due.is(19, "segment " + number, ring.segment(number), RingProtection.NO_SUCH_NODE);
        }
    }

    private static void requestsOfFailures() {
        RingProtection ring = ringOf(4);
        ring.failWorking(0, true);
        due.is(16, "working down", ring.request(0), RingProtection.FAIL_SPAN);
        ring.failProtection(0, true);
        due.is(16, "both down", ring.request(0), RingProtection.FAIL_RING);
        ring.failWorking(0, false);
        due.is(16, "protection down", ring.request(0), RingProtection.LOCKOUT);
        ring.failNode(1, true);
        due.is(16, "both down by a node", ring.request(0), RingProtection.FAIL_RING);
        due.is(16, "the other side of the node", ring.request(1), RingProtection.FAIL_RING);
        due.is(16, "away from the node", ring.request(2), RingProtection.NO_REQUEST);
        ring.failNode(1, false);
        due.is(16, "protection down again", ring.request(0), RingProtection.LOCKOUT);
    }

    /** For each command the request on a span without failure, working down, protection down, both down. */
    private static void requestsOfCommandsAndFailures() {
        int[][] rows = {
            {RingProtection.NO_REQUEST, 0, 5, 9, 6},
            {RingProtection.MANUAL_SPAN, 3, 5, 9, 6},
            {RingProtection.MANUAL_RING, 4, 5, 9, 6},
            {RingProtection.FORCED_SPAN, 7, 7, 9, 6},
            {RingProtection.FORCED_RING, 8, 8, 9, 8},
            {RingProtection.LOCKOUT, 9, 9, 9, 9}};
        for (int[] row : rows) {
            for (int failures = 0; failures < 4; failures++) {
                RingProtection ring = ringOf(3);
                ring.command(2, row[0]);
                ring.failWorking(2, (failures & 1) != 0);
                ring.failProtection(2, (failures & 2) != 0);
                due.is(16, "command " + row[0] + " with failures " + failures, ring.request(2),
                    row[failures + 1]);
            }
        }
    }

    private static void spanCommandsWithoutProtection() {
        RingProtection ring = ringOf(4);
        ring.command(1, RingProtection.FORCED_SPAN);
        due.is(17, "forced", ring.switchOf(1), SPAN);
        ring.failProtection(1, true);
        due.is(16, "locked out", ring.request(1), RingProtection.LOCKOUT);
        due.is(17, "forced in vain", ring.switchOf(1), NO);
        ring.failWorking(1, true);
        due.is(16, "both down", ring.request(1), RingProtection.FAIL_RING);
        due.is(17, "ring", ring.switchOf(1), RING);
        cut(ring, 1, false);
        due.is(16, "the command is back", ring.request(1), RingProtection.FORCED_SPAN);
        due.is(17, "forced again", ring.switchOf(1), SPAN);
    }

    private static void lockoutStopsRingSwitches() {
        RingProtection ring = ringOf(6);
        ring.command(0, RingProtection.FORCED_RING);
        cut(ring, 2, true);
        switchesAre("before", ring, RING, NO, RING, NO, NO, NO);
        ring.command(4, RingProtection.LOCKOUT);
        switchesAre("lockout command", ring, NO, NO, NO, NO, NO, NO);
        due.is(16, "the request stays", ring.request(0), RingProtection.FORCED_RING);
        ring.command(4, RingProtection.NO_REQUEST);
        ring.failProtection(5, true);
        switchesAre("lockout by failure", ring, NO, NO, NO, NO, NO, NO);
        ring.failProtection(5, false);
        switchesAre("afterwards", ring, RING, NO, RING, NO, NO, NO);
        ring.command(0, RingProtection.MANUAL_RING);
        cut(ring, 2, false);
        ring.advance(10);
        due.is(17, "manual ring", ring.switchOf(0), RING);
        ring.command(1, RingProtection.LOCKOUT);
        due.is(17, "manual ring, locked out", ring.switchOf(0), NO);
        for (int span = 0; span < 5; span++) {
            ring.reset(6, 1);
            ring.command(5, RingProtection.FORCED_RING);
            ring.command(span, RingProtection.LOCKOUT);
            due.is(17, "lockout on span " + span, ring.switchOf(5), NO);
        }
    }

    private static void lockoutLetsSpanSwitchesBe() {
        RingProtection ring = ringOf(5);
        ring.command(0, RingProtection.LOCKOUT);
        ring.failWorking(1, true);
        ring.command(2, RingProtection.MANUAL_SPAN);
        ring.command(3, RingProtection.FORCED_SPAN);
        ring.failWorking(4, true);
        cut(ring, 4, true);
        switchesAre("span switches beside a lockout", ring, NO, SPAN, SPAN, SPAN, NO);
        ring.failWorking(0, true);
        due.is(17, "lockout of a failed span", ring.switchOf(0), NO);
    }

    private static void ringSwitchesTogether() {
        RingProtection ring = ringOf(8);
        cut(ring, 1, true);
        cut(ring, 4, true);
        ring.command(6, RingProtection.FORCED_RING);
        switchesAre("three", ring, NO, RING, NO, NO, RING, NO, RING, NO);
        ring.failWorking(0, true);
        due.is(17, "no span switch beside them", ring.switchOf(0), NO);
        due.is(16, "though it is asked for", ring.request(0), RingProtection.FAIL_SPAN);
    }

    private static void onlyOneManualRing() {
        RingProtection ring = ringOf(4);
        ring.command(3, RingProtection.MANUAL_RING);
        ring.command(1, RingProtection.MANUAL_RING);
        switchesAre("the smaller span", ring, NO, RING, NO, NO);
        ring.command(1, RingProtection.NO_REQUEST);
        switchesAre("the other span", ring, NO, NO, NO, RING);
        ring.failWorking(0, true);
        switchesAre("after a span switch", ring, SPAN, NO, NO, NO);
    }

    private static void manualRingYieldsToRingSwitches() {
        RingProtection ring = ringOf(4);
        ring.command(0, RingProtection.MANUAL_RING);
        cut(ring, 2, true);
        switchesAre("a failure first", ring, NO, NO, RING, NO);
        cut(ring, 2, false);
        due.is(16, "the failed span waited in vain", ring.request(2), RingProtection.NO_REQUEST);
        switchesAre("the manual one again", ring, RING, NO, NO, NO);
    }

    private static void spanSwitchesTogether() {
        RingProtection ring = ringOf(4);
        ring.failWorking(0, true);
        ring.command(1, RingProtection.FORCED_SPAN);
        ring.command(2, RingProtection.MANUAL_SPAN);
        ring.failWorking(3, true);
        ring.failWorking(3, false);
        switchesAre("four", ring, SPAN, SPAN, SPAN, SPAN);
        due.is(16, "one of them waits", ring.request(3), RingProtection.WAIT_SPAN);
    }

    private static void spanAgainstRing() {
        RingProtection ring = ringOf(4);
        ring.command(0, RingProtection.FORCED_SPAN);
        cut(ring, 1, true);
        switchesAre("forced span before failed ring", ring, SPAN, NO, NO, NO);
        ring.command(2, RingProtection.FORCED_RING);
        switchesAre("forced ring before forced span", ring, NO, RING, RING, NO);
        ring.command(2, RingProtection.NO_REQUEST);
        ring.command(0, RingProtection.MANUAL_SPAN);
        switchesAre("failed ring before manual span", ring, NO, RING, NO, NO);
        cut(ring, 1, false);
        ring.advance(9);
        ring.command(3, RingProtection.MANUAL_RING);
        switchesAre("manual ring before manual span", ring, NO, NO, NO, RING);
        ring.failWorking(2, true);
        switchesAre("failed span before manual ring", ring, SPAN, NO, SPAN, NO);
    }

    private static void equalRequestsInSpanOrder() {
        RingProtection ring = ringOf(8);
        for (int span = 7; span >= 2; span--) {
            ring.command(span, RingProtection.MANUAL_RING);
            due.is(17, "the smallest gets it: " + span, ring.switchOf(span), RING);
            due.is(17, "the one after it not", ring.switchOf((span + 1) % 8), NO);
        }
    }

    private static void waitAfterSpanSwitch() {
        RingProtection ring = ringOf(4);
        ring.failWorking(1, true);
        due.is(18, "no timer while it fails", ring.restoreTimer(1), 0);
        ring.failWorking(1, false);
        due.is(16, "request", ring.request(1), RingProtection.WAIT_SPAN);
        due.is(17, "switch", ring.switchOf(1), SPAN);
        due.is(18, "timer", ring.restoreTimer(1), 5);
        ring.advance(4);
        due.is(16, "request after 4 seconds", ring.request(1), RingProtection.WAIT_SPAN);
        due.is(18, "timer after 4 seconds", ring.restoreTimer(1), 1);
        ring.advance(1);
        due.is(16, "request after 5 seconds", ring.request(1), RingProtection.NO_REQUEST);
        due.is(17, "switch after 5 seconds", ring.switchOf(1), NO);
        due.is(18, "timer after 5 seconds", ring.restoreTimer(1), 0);
    }

    private static void waitAfterRingSwitch() {
        RingProtection ring = ringOf(4);
        ring.failNode(3, true);
        ring.failNode(3, false);
        due.is(16, "the smaller span waits", ring.request(2), RingProtection.WAIT_RING);
        due.is(17, "and keeps its switch", ring.switchOf(2), RING);
        due.is(18, "timer", ring.restoreTimer(2), 5);
        due.is(16, "the other one is dropped", ring.request(3), RingProtection.NO_REQUEST);
        due.is(17, "and has no switch", ring.switchOf(3), NO);
        due.is(18, "and no timer", ring.restoreTimer(3), 0);
        ring.advance(5);
        due.is(17, "it ends", ring.switchOf(2), NO);
    }

    private static void noWaitWithoutSwitch() {
        RingProtection ring = ringOf(4);
        ring.command(0, RingProtection.FORCED_RING);
        ring.failWorking(1, true);
        due.is(17, "no switch", ring.switchOf(1), NO);
        ring.failWorking(1, false);
        due.is(18, "no timer", ring.restoreTimer(1), 0);
        ring.command(0, RingProtection.NO_REQUEST);
        due.is(16, "no request", ring.request(1), RingProtection.NO_REQUEST);
    }

    private static void noWaitAfterCommand() {
        RingProtection ring = ringOf(4);
        int[] commands = {RingProtection.MANUAL_SPAN, RingProtection.MANUAL_RING,
            RingProtection.FORCED_SPAN, RingProtection.FORCED_RING};
        for (int command : commands) {
            ring.command(2, command);
            due.holds(17, "switch by command " + command, ring.switchOf(2) != NO);
            ring.command(2, RingProtection.NO_REQUEST);
            due.is(18, "timer after command " + command, ring.restoreTimer(2), 0);
            due.is(17, "switch after command " + command, ring.switchOf(2), NO);
        }
        ring.failWorking(2, true);
        ring.command(2, RingProtection.FORCED_SPAN);
        ring.failWorking(2, false);
        ring.command(2, RingProtection.NO_REQUEST);
        due.is(18, "a failure that ended under a command", ring.restoreTimer(2), 0);
    }

    private static void noWaitIntoAnotherRequest() {
        RingProtection ring = ringOf(4);
        cut(ring, 0, true);
        ring.failWorking(0, false);
        due.is(16, "protection alone is down", ring.request(0), RingProtection.LOCKOUT);
        ring.failProtection(0, false);
        due.is(18, "no wait by this way", ring.restoreTimer(0), 0);
        cut(ring, 0, true);
        ring.failProtection(0, false);
        due.is(16, "working alone is down", ring.request(0), RingProtection.FAIL_SPAN);
        ring.failWorking(0, false);
        due.is(16, "waits as a span", ring.request(0), RingProtection.WAIT_SPAN);
        ring.command(0, RingProtection.MANUAL_SPAN);
        ring.failWorking(0, true);
        ring.failWorking(0, false);
        due.is(16, "a command is there at once", ring.request(0), RingProtection.MANUAL_SPAN);
        due.is(18, "so there is no timer", ring.restoreTimer(0), 0);
    }

    private static void waitEndsByNewRequest() {
        RingProtection ring = ringOf(4);
        int[] commands = {RingProtection.MANUAL_SPAN, RingProtection.FORCED_RING,
            RingProtection.LOCKOUT};
        for (int command : commands) {
            ring.failWorking(0, true);
            ring.failWorking(0, false);
            due.is(18, "timer before command " + command, ring.restoreTimer(0), 5);
            ring.command(0, command);
            due.is(16, "request under command " + command, ring.request(0), command);
            due.is(18, "timer under command " + command, ring.restoreTimer(0), 0);
            ring.command(0, RingProtection.NO_REQUEST);
            due.is(16, "request after command " + command, ring.request(0),
                RingProtection.NO_REQUEST);
        }
        ring.failWorking(0, true);
        ring.failWorking(0, false);
        ring.advance(3);
        ring.failWorking(0, true);
        due.is(18, "timer while it fails again", ring.restoreTimer(0), 0);
        ring.failWorking(0, false);
        due.is(18, "a full time after it", ring.restoreTimer(0), 5);
    }

    private static void waitEndsByLostSwitch() {
        RingProtection ring = ringOf(5);
        cut(ring, 0, true);
        ring.failNode(0, true);
        cut(ring, 0, false);
        ring.failNode(0, false);
        due.is(16, "waits", ring.request(0), RingProtection.WAIT_RING);
        ring.failWorking(2, true);
        due.is(17, "a span switch comes first", ring.switchOf(2), SPAN);
        due.is(18, "the wait is over", ring.restoreTimer(0), 0);
        ring.failWorking(2, false);
        due.is(16, "and does not come back", ring.request(0), RingProtection.NO_REQUEST);
        due.is(16, "span 2 waits", ring.request(2), RingProtection.WAIT_SPAN);
        ring.command(4, RingProtection.LOCKOUT);
        due.is(18, "a lockout ends no span's wait", ring.restoreTimer(2), 5);
        ring.command(4, RingProtection.FORCED_RING);
        due.is(18, "a ring switch does", ring.restoreTimer(2), 0);
    }

    private static void waitRanksLowest() {
        RingProtection ring = ringOf(5);
        ring.failNode(2, true);
        ring.failNode(2, false);
        due.is(16, "ring wait", ring.request(1), RingProtection.WAIT_RING);
        ring.command(4, RingProtection.LOCKOUT);
        due.is(18, "a lockout ends a ring's wait", ring.restoreTimer(1), 0);
        ring.command(4, RingProtection.NO_REQUEST);
        ring.failNode(2, true);
        ring.failNode(2, false);
        ring.command(4, RingProtection.MANUAL_SPAN);
        due.is(17, "manual span before ring wait", ring.switchOf(4), SPAN);
        due.is(16, "so it ends", ring.request(1), RingProtection.NO_REQUEST);
        ring.command(4, RingProtection.NO_REQUEST);
        ring.failWorking(0, true);
        ring.failWorking(0, false);
        ring.command(4, RingProtection.MANUAL_RING);
        due.is(17, "manual ring before span wait", ring.switchOf(4), RING);
        due.is(16, "so that ends too", ring.request(0), RingProtection.NO_REQUEST);
    }

    private static void timersOfSeveralSpans() {
        RingProtection ring = ringOf(8);
        for (int span = 0; span < 8; span++) {
            ring.failWorking(span, true);
        }
        for (int span = 0; span < 8; span++) {
            ring.setRestoreTime(10 + 2 * span);
            ring.failWorking(span, false);
            ring.advance(1);
        }
        for (int span = 0; span < 8; span++) {
            due.is(18, "span " + span, ring.restoreTimer(span), 2 + 3 * span);
        }
        ring.advance(10);
        for (int span = 0; span < 8; span++) {
            due.is(18, "ten seconds on, span " + span, ring.restoreTimer(span),
                Math.max(0, 3 * span - 8));
        }
    }

    private static void segmentsAre(String what, RingProtection ring, int... smallest) {
        for (int node = 0; node < smallest.length; node++) {
            due.is(19, what + ": segment " + node, ring.segment(node), smallest[node]);
        }
    }

    private static void segments() {
        RingProtection ring = ringOf(6);
        segmentsAre("no switch", ring, 0, 0, 0, 0, 0, 0);
        ring.command(2, RingProtection.FORCED_SPAN);
        segmentsAre("span switch", ring, 0, 0, 0, 0, 0, 0);
        ring.command(2, RingProtection.FORCED_RING);
        segmentsAre("one", ring, 0, 0, 0, 0, 0, 0);
        ring.command(4, RingProtection.FORCED_RING);
        segmentsAre("two", ring, 0, 0, 0, 3, 3, 0);
        ring.command(5, RingProtection.FORCED_RING);
        segmentsAre("three", ring, 0, 0, 0, 3, 3, 5);
        ring.command(2, RingProtection.NO_REQUEST);
        segmentsAre("the last two", ring, 0, 0, 0, 0, 0, 5);
        ring.command(4, RingProtection.NO_REQUEST);
        segmentsAre("the last one", ring, 0, 0, 0, 0, 0, 0);
        ring.failNode(0, true);
        segmentsAre("node 0 alone", ring, 0, 1, 1, 1, 1, 1);
        for (int span = 0; span < 6; span++) {
            ring.command(span, RingProtection.FORCED_RING);
        }
        segmentsAre("all", ring, 0, 1, 2, 3, 4, 5);
        ring.command(3, RingProtection.LOCKOUT);
        segmentsAre("locked out", ring, 0, 0, 0, 0, 0, 0);
    }
}
