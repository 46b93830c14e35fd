/** The boundary cases of promises 16 to 19, each under the sentence of the document that names it. */
final class BoundaryRequestsTest implements Doc {
    private static final int[] NEVER_A_NUMBER = {-1, 8, 9, 31, 32, 33, LEAST, GREATEST};

    public static void main(String[] args) throws IllegalAccessException {
        Cases.run(BoundaryRequestsTest.class, 16, 19);
    }

    private static void requestIs(int command, boolean working, boolean protection, int due) {
        RingProtection ring = new RingProtection();
        ring.command(3, command);
        ring.failWorking(3, working);
        ring.failProtection(3, protection);
        Cases.is("command " + command + (working ? ", working" : "")
            + (protection ? ", protection" : "") + " failed", ring.request(3), due);
    }

    private static void switchesAre(String what, RingProtection ring, int... due) {
        for (int span = 0; span < due.length; span++) {
            Cases.is(what + ", span " + span, ring.switchOf(span), due[span]);
        }
    }

    private static void segmentsAre(String what, RingProtection ring, int... due) {
        for (int node = 0; node < due.length; node++) {
            Cases.is(what + ", node " + node, ring.segment(node), due[node]);
        }
    }

    // ---- promise 16: request

    // "NO_SUCH_SPAN if the span does not exist"
    static void promise16NoSuchSpan() {
        for (int nodes = 3; nodes <= 8; nodes++) {
            RingProtection ring = Cases.ringOf(nodes, 1);
            Cases.is("span " + nodes, ring.request(nodes), NO_SUCH_SPAN);
            Cases.is("last span of " + nodes, ring.request(nodes - 1), NO_REQUEST);
        }
        for (int span : NEVER_A_NUMBER) {
            Cases.is("span " + span, new RingProtection().request(span), NO_SUCH_SPAN);
        }
    }

    // "LOCKOUT applies if it is the command, or if the protection capacity is down and the working
    // capacity is not."
    static void promise16Lockout() {
        requestIs(LOCKOUT, false, false, LOCKOUT);
        requestIs(LOCKOUT, true, true, LOCKOUT);
        requestIs(LOCKOUT, true, false, LOCKOUT);
        requestIs(NO_REQUEST, false, true, LOCKOUT);
        requestIs(FORCED_RING, false, true, LOCKOUT);
    }

    // the same: "and the working capacity is not"
    static void promise16NoLockoutIfBothAreDown() {
        requestIs(NO_REQUEST, true, true, FAIL_RING);
        requestIs(NO_REQUEST, true, false, FAIL_SPAN);
        requestIs(NO_REQUEST, false, false, NO_REQUEST);
    }

    // "FORCED_RING and MANUAL_RING apply if they are the command": whatever is down
    static void promise16RingCommandsNeedNoProtection() {
        requestIs(FORCED_RING, true, true, FORCED_RING);
        requestIs(FORCED_RING, true, false, FORCED_RING);
        requestIs(FORCED_RING, false, false, FORCED_RING);
        requestIs(MANUAL_RING, false, false, MANUAL_RING);
    }

    // "FORCED_SPAN and MANUAL_SPAN apply if they are the command and the protection capacity is
    // not down."
    static void promise16SpanCommandsNeedProtection() {
        requestIs(FORCED_SPAN, false, false, FORCED_SPAN);
        requestIs(FORCED_SPAN, true, false, FORCED_SPAN);
        requestIs(FORCED_SPAN, true, true, FAIL_RING);
        requestIs(FORCED_SPAN, false, true, LOCKOUT);
        requestIs(MANUAL_SPAN, false, false, MANUAL_SPAN);
        requestIs(MANUAL_SPAN, true, true, FAIL_RING);
        requestIs(MANUAL_SPAN, false, true, LOCKOUT);
    }

    // "the greatest (by the numeric value of the constant) of those requests that apply"
    static void promise16GreatestOfFailureAndCommand() {
        requestIs(MANUAL_SPAN, true, false, FAIL_SPAN);
        requestIs(MANUAL_RING, true, false, FAIL_SPAN);
        requestIs(MANUAL_RING, true, true, FAIL_RING);
        requestIs(MANUAL_RING, false, true, LOCKOUT);
        requestIs(FORCED_SPAN, true, false, FORCED_SPAN);
        requestIs(FORCED_RING, true, true, FORCED_RING);
    }

    // the same sentences where a node, not a mark, takes the capacities down
    static void promise16DownByANode() {
        int[] commands =
            {NO_REQUEST, MANUAL_SPAN, MANUAL_RING, FORCED_SPAN, FORCED_RING, LOCKOUT};
        int[] due = {FAIL_RING, FAIL_RING, FAIL_RING, FAIL_RING, FORCED_RING, LOCKOUT};
        for (int i = 0; i < commands.length; i++) {
            RingProtection ring = new RingProtection();
            ring.command(3, commands[i]);
            ring.failNode(0, true);
            Cases.is("node 0, command " + commands[i], ring.request(3), due[i]);
            ring.failNode(0, false);
            ring.failNode(3, true);
            Cases.is("node 3, command " + commands[i], ring.request(3), due[i]);
        }
    }

    // "it is the held request if the direct request is NO_REQUEST and the timer is above 0"
    static void promise16HeldWhileTheTimerIsAboveZero() {
        RingProtection ring = new RingProtection();
        ring.setRestoreTime(2);
        Cases.failAndMend(ring, 0);
        Cases.is("at 2", ring.request(0), WAIT_SPAN);
        ring.advance(1);
        Cases.is("at 1", ring.request(0), WAIT_SPAN);
        ring.advance(1);
        Cases.is("at 0", ring.request(0), NO_REQUEST);
    }

    // "WAIT_SPAN if that switch was SPAN_SWITCH, WAIT_RING if it was RING_SWITCH"
    static void promise16HeldBySwitch() {
        RingProtection ring = new RingProtection();
        ring.failNode(1, true);
        ring.failNode(1, false);
        Cases.is("after a ring switch", ring.request(0), WAIT_RING);
        ring.advance(5);
        Cases.failAndMend(ring, 0);
        Cases.is("after a span switch", ring.request(0), WAIT_SPAN);
        ring.advance(5);
        ring.failNode(1, true);
        ring.failNode(1, false);
        Cases.is("after a ring switch again", ring.request(0), WAIT_RING);
    }

    // the same: the direct request comes before the held one
    static void promise16DirectBeforeHeld() {
        int[] commands = {MANUAL_SPAN, MANUAL_RING, FORCED_SPAN, FORCED_RING, LOCKOUT};
        for (int command : commands) {
            RingProtection ring = new RingProtection();
            Cases.failAndMend(ring, 2);
            ring.command(2, command);
            Cases.is("command " + command, ring.request(2), command);
            ring.command(2, NO_REQUEST);
            Cases.is("the wait is over", ring.request(2), NO_REQUEST);
        }
    }

    // ---- promise 17: switchOf

    // "NO_SUCH_SPAN if the span does not exist"
    static void promise17NoSuchSpan() {
        for (int nodes = 3; nodes <= 8; nodes++) {
            RingProtection ring = Cases.ringOf(nodes, 1);
            ring.command(nodes - 1, FORCED_RING);
            Cases.is("span " + nodes, ring.switchOf(nodes), NO_SUCH_SPAN);
            Cases.is("last span of " + nodes, ring.switchOf(nodes - 1), RING_SWITCH);
        }
        for (int span : NEVER_A_NUMBER) {
            Cases.is("span " + span, new RingProtection().switchOf(span), NO_SUCH_SPAN);
        }
    }

    // "For FORCED_RING and FAIL_RING ... unless some span of the ring has the request LOCKOUT"
    static void promise17LockoutAnywhere() {
        for (int locked = 0; locked < 8; locked++) {
            RingProtection ring = Cases.ringOf(8, 1);
            int forced = (locked + 1) % 8;
            int failed = (locked + 7) % 8;
            ring.command(forced, FORCED_RING);
            Cases.cut(ring, failed);
            Cases.is("failed", ring.switchOf(failed), RING_SWITCH);
            ring.command(locked, LOCKOUT);
            Cases.is("forced beside " + locked, ring.switchOf(forced), NO_SWITCH);
            Cases.is("failed beside " + locked, ring.switchOf(failed), NO_SWITCH);
            ring.command(locked, NO_REQUEST);
            ring.failProtection(locked, true);
            Cases.is("forced, protection failed", ring.switchOf(forced), NO_SWITCH);
            Cases.is("failed, protection failed", ring.switchOf(failed), NO_SWITCH);
        }
    }

    // the same, for MANUAL_RING and WAIT_RING
    static void promise17LockoutOfManualAndWait() {
        RingProtection ring = new RingProtection();
        ring.command(0, MANUAL_RING);
        ring.command(3, LOCKOUT);
        Cases.is("manual", ring.switchOf(0), NO_SWITCH);
        ring.reset(4, 1);
        ring.failNode(1, true);
        ring.failNode(1, false);
        Cases.is("wait", ring.switchOf(0), RING_SWITCH);
        ring.command(3, LOCKOUT);
        Cases.is("wait, locked out", ring.switchOf(0), NO_SWITCH);
    }

    // "... or some span has already got SPAN_SWITCH": FORCED_SPAN stands before FAIL_RING
    static void promise17FailRingAfterForcedSpan() {
        RingProtection ring = new RingProtection();
        ring.command(3, FORCED_SPAN);
        Cases.cut(ring, 0);
        switchesAre("forced span first", ring, NO_SWITCH, NO_SWITCH, NO_SWITCH, SPAN_SWITCH);
        ring.command(3, MANUAL_SPAN);
        switchesAre("failed ring first", ring, RING_SWITCH, NO_SWITCH, NO_SWITCH, NO_SWITCH);
    }

    // the same: a ring switch that has been granted is no hindrance to these two
    static void promise17ManyRingSwitches() {
        for (int nodes = 3; nodes <= 8; nodes++) {
            RingProtection ring = Cases.ringOf(nodes, 1);
            for (int span = 0; span < nodes; span++) {
                if (span % 2 == 0) {
                    ring.command(span, FORCED_RING);
                } else {
                    Cases.cut(ring, span);
                }
            }
            for (int span = 0; span < nodes; span++) {
                Cases.is("span " + span + " of " + nodes, ring.switchOf(span), RING_SWITCH);
            }
        }
    }

    // "For MANUAL_RING and WAIT_RING ... already got a switch of either kind": a ring switch
    static void promise17ManualRingAfterRing() {
        RingProtection ring = new RingProtection();
        ring.command(0, MANUAL_RING);
        ring.command(3, FORCED_RING);
        switchesAre("forced", ring, NO_SWITCH, NO_SWITCH, NO_SWITCH, RING_SWITCH);
        ring.command(3, NO_REQUEST);
        Cases.cut(ring, 3);
        switchesAre("failed", ring, NO_SWITCH, NO_SWITCH, NO_SWITCH, RING_SWITCH);
    }

    // the same: a span switch
    static void promise17ManualRingAfterSpan() {
        RingProtection ring = new RingProtection();
        ring.command(0, MANUAL_RING);
        ring.failWorking(3, true);
        switchesAre("failed", ring, NO_SWITCH, NO_SWITCH, NO_SWITCH, SPAN_SWITCH);
        ring.setRestoreTime(0);
        ring.failWorking(3, false);
        ring.command(3, FORCED_SPAN);
        switchesAre("forced", ring, NO_SWITCH, NO_SWITCH, NO_SWITCH, SPAN_SWITCH);
        ring.command(3, MANUAL_SPAN);
        switchesAre("manual", ring, RING_SWITCH, NO_SWITCH, NO_SWITCH, NO_SWITCH);
    }

    // the same, for WAIT_RING: MANUAL_SPAN stands before it
    static void promise17WaitRingAfterSpan() {
        RingProtection ring = new RingProtection();
        ring.failNode(1, true);
        ring.failNode(1, false);
        ring.command(3, MANUAL_SPAN);
        switchesAre("manual span", ring, NO_SWITCH, NO_SWITCH, NO_SWITCH, SPAN_SWITCH);
    }

    // the same, for WAIT_RING: two of them at once, only the first gets the switch
    static void promise17WaitRingAfterWaitRing() {
        RingProtection ring = new RingProtection();
        ring.failNode(0, true);
        switchesAre("failed", ring, RING_SWITCH, NO_SWITCH, NO_SWITCH, RING_SWITCH);
        ring.failNode(0, false);
        switchesAre("mended", ring, RING_SWITCH, NO_SWITCH, NO_SWITCH, NO_SWITCH);
    }

    // "For FORCED_SPAN, FAIL_SPAN, MANUAL_SPAN and WAIT_SPAN ... unless some span has already got
    // RING_SWITCH": one that was granted before them
    static void promise17SpanSwitchesAfterRing() {
        RingProtection ring = Cases.ringOf(5, 1);
        ring.command(1, FORCED_SPAN);
        ring.failWorking(2, true);
        ring.command(3, MANUAL_SPAN);
        Cases.failAndMend(ring, 4);
        switchesAre("no ring switch", ring, NO_SWITCH, SPAN_SWITCH, SPAN_SWITCH, SPAN_SWITCH,
            SPAN_SWITCH);
        ring.command(0, FORCED_RING);
        switchesAre("forced ring", ring, RING_SWITCH, NO_SWITCH, NO_SWITCH, NO_SWITCH, NO_SWITCH);
    }

    // the same: each of the four stands before or behind a ring request
    static void promise17SpanBeforeRingBySize() {
        RingProtection ring = new RingProtection();
        ring.failWorking(2, true);
        ring.command(0, MANUAL_RING);
        switchesAre("failed span, manual ring", ring, NO_SWITCH, NO_SWITCH, SPAN_SWITCH,
            NO_SWITCH);
        Cases.cut(ring, 1);
        switchesAre("failed ring, failed span", ring, NO_SWITCH, RING_SWITCH, NO_SWITCH,
            NO_SWITCH);
        ring.command(3, FORCED_SPAN);
        switchesAre("forced span, failed ring", ring, NO_SWITCH, NO_SWITCH, SPAN_SWITCH,
            SPAN_SWITCH);
        ring.command(0, FORCED_RING);
        switchesAre("forced ring, forced span", ring, RING_SWITCH, RING_SWITCH, NO_SWITCH,
            NO_SWITCH);
    }

    // the same: a lockout does not hinder them
    static void promise17SpanSwitchesBesideLockout() {
        RingProtection ring = Cases.ringOf(5, 1);
        ring.command(0, LOCKOUT);
        ring.command(1, FORCED_SPAN);
        ring.failWorking(2, true);
        ring.command(3, MANUAL_SPAN);
        Cases.failAndMend(ring, 4);
        switchesAre("lockout", ring, NO_SWITCH, SPAN_SWITCH, SPAN_SWITCH, SPAN_SWITCH,
            SPAN_SWITCH);
    }

    // "For LOCKOUT and NO_REQUEST the span gets nothing."
    static void promise17LockoutGetsNothing() {
        RingProtection ring = new RingProtection();
        ring.failWorking(3, true);
        ring.command(3, LOCKOUT);
        Cases.is("failed and locked out", ring.switchOf(3), NO_SWITCH);
        Cases.cut(ring, 3);
        Cases.is("cut and locked out", ring.switchOf(3), NO_SWITCH);
        Cases.is("beside it", ring.switchOf(0), NO_SWITCH);
    }

    // "among spans with equal requests in ascending order of span numbers": first and last span
    static void promise17EqualRequests() {
        for (int nodes = 3; nodes <= 8; nodes++) {
            RingProtection ring = Cases.ringOf(nodes, 1);
            ring.command(nodes - 1, MANUAL_RING);
            Cases.is("alone", ring.switchOf(nodes - 1), RING_SWITCH);
            ring.command(0, MANUAL_RING);
            Cases.is("span 0 of " + nodes, ring.switchOf(0), RING_SWITCH);
            Cases.is("last span of " + nodes, ring.switchOf(nodes - 1), NO_SWITCH);
        }
    }

    // ---- promise 18: restoreTimer

    // "NO_SUCH_SPAN if the span does not exist"
    static void promise18NoSuchSpan() {
        for (int nodes = 3; nodes <= 8; nodes++) {
            RingProtection ring = Cases.ringOf(nodes, 1);
            Cases.failAndMend(ring, nodes - 1);
            Cases.is("span " + nodes, ring.restoreTimer(nodes), NO_SUCH_SPAN);
            Cases.is("last span of " + nodes, ring.restoreTimer(nodes - 1), 5);
        }
        for (int span : NEVER_A_NUMBER) {
            Cases.is("span " + span, new RingProtection().restoreTimer(span), NO_SUCH_SPAN);
        }
    }

    // "If the old one was FAIL_SPAN or FAIL_RING": no other request makes a span wait
    static void promise18OnlyAfterAFailure() {
        int[] commands = {MANUAL_SPAN, MANUAL_RING, FORCED_SPAN, FORCED_RING, LOCKOUT};
        for (int command : commands) {
            RingProtection ring = new RingProtection();
            ring.command(1, command);
            ring.command(1, NO_REQUEST);
            Cases.is("command " + command, ring.restoreTimer(1), 0);
        }
        RingProtection ring = new RingProtection();
        ring.failProtection(1, true);
        ring.failProtection(1, false);
        Cases.is("protection alone", ring.restoreTimer(1), 0);
    }

    // "the span had a switch after the previous run"
    static void promise18OnlyWithASwitch() {
        RingProtection ring = new RingProtection();
        ring.command(0, FORCED_RING);
        Cases.failAndMend(ring, 2);
        Cases.is("beside a ring switch", ring.restoreTimer(2), 0);
        ring.command(0, LOCKOUT);
        ring.failNode(3, true);
        ring.failNode(3, false);
        Cases.is("a ring request beside a lockout", ring.restoreTimer(2), 0);
        Cases.is("the other span", ring.restoreTimer(3), 0);
        Cases.failAndMend(ring, 2);
        Cases.is("a span request beside a lockout", ring.restoreTimer(2), 5);
    }

    // "the new one is NO_REQUEST"
    static void promise18OnlyWhenNothingElseIsAsked() {
        RingProtection ring = new RingProtection();
        ring.command(0, MANUAL_SPAN);
        ring.failWorking(0, true);
        Cases.is("fails", ring.request(0), FAIL_SPAN);
        ring.failWorking(0, false);
        Cases.is("the command is left", ring.restoreTimer(0), 0);
        ring.command(0, NO_REQUEST);
        Cases.is("and then nothing", ring.restoreTimer(0), 0);
        Cases.cut(ring, 0);
        ring.failWorking(0, false);
        Cases.is("the protection is left", ring.restoreTimer(0), 0);
        ring.failProtection(0, false);
        Cases.is("and then nothing", ring.restoreTimer(0), 0);
        Cases.cut(ring, 0);
        ring.failProtection(0, false);
        Cases.is("the working capacity is left", ring.restoreTimer(0), 0);
        ring.failWorking(0, false);
        Cases.is("now it waits", ring.restoreTimer(0), 5);
    }

    // "If the new direct request is not NO_REQUEST, the timer becomes 0."
    static void promise18ZeroByANewRequest() {
        int[] commands = {MANUAL_SPAN, MANUAL_RING, FORCED_SPAN, FORCED_RING, LOCKOUT};
        for (int command : commands) {
            RingProtection ring = new RingProtection();
            Cases.failAndMend(ring, 3);
            Cases.is("before " + command, ring.restoreTimer(3), 5);
            ring.command(3, command);
            Cases.is("command " + command, ring.restoreTimer(3), 0);
        }
        RingProtection ring = new RingProtection();
        Cases.failAndMend(ring, 3);
        ring.failWorking(3, true);
        Cases.is("it fails again", ring.restoreTimer(3), 0);
        ring.failWorking(3, false);
        ring.failProtection(3, true);
        Cases.is("its protection fails", ring.restoreTimer(3), 0);
    }

    // "The timer of each span whose request is WAIT_SPAN or WAIT_RING and that has got no switch
    // becomes 0": and it stays so
    static void promise18ZeroWithoutASwitch() {
        RingProtection ring = new RingProtection();
        Cases.failAndMend(ring, 0);
        Cases.failAndMend(ring, 3);
        ring.command(1, MANUAL_RING);
        Cases.is("first span's wait", ring.restoreTimer(0), 0);
        Cases.is("last span's wait", ring.restoreTimer(3), 0);
        ring.command(1, NO_REQUEST);
        Cases.is("it does not come back", ring.restoreTimer(0), 0);
        Cases.is("nor its request", ring.request(3), NO_REQUEST);
        ring.failNode(0, true);
        ring.failNode(0, false);
        Cases.is("the first of two ring waits", ring.restoreTimer(0), 5);
        Cases.is("the second of two ring waits", ring.restoreTimer(3), 0);
        Cases.failAndMend(ring, 2);
        Cases.is("a ring wait behind a failed span", ring.restoreTimer(0), 0);
        Cases.is("that span waits", ring.restoreTimer(2), 5);
    }

    // the same: a wait that keeps its switch goes on
    static void promise18WaitsSideBySide() {
        RingProtection ring = Cases.ringOf(8, 1);
        for (int span = 0; span < 8; span++) {
            Cases.failAndMend(ring, span);
        }
        ring.command(0, LOCKOUT);
        Cases.is("locked out", ring.restoreTimer(0), 0);
        for (int span = 1; span < 8; span++) {
            Cases.is("span " + span, ring.restoreTimer(span), 5);
        }
    }

    // "then the restore timer is set to the restore time": a new failure starts it from above
    static void promise18StartsFromAbove() {
        RingProtection ring = new RingProtection();
        Cases.failAndMend(ring, 0);
        ring.advance(4);
        Cases.is("nearly over", ring.restoreTimer(0), 1);
        Cases.failAndMend(ring, 0);
        Cases.is("from above", ring.restoreTimer(0), 5);
        Cases.failAndMend(ring, 1);
        ring.advance(1);
        Cases.is("one run of the controller starts it once", ring.restoreTimer(1), 4);
    }

    // ---- promise 19: segment

    // "NO_SUCH_NODE if the node does not exist"
    static void promise19NoSuchNode() {
        for (int nodes = 3; nodes <= 8; nodes++) {
            RingProtection ring = Cases.ringOf(nodes, 1);
            Cases.is("node " + nodes, ring.segment(nodes), NO_SUCH_NODE);
            Cases.is("last node of " + nodes, ring.segment(nodes - 1), 0);
        }
        for (int node : NEVER_A_NUMBER) {
            Cases.is("node " + node, new RingProtection().segment(node), NO_SUCH_NODE);
        }
    }

    // "(With one RING_SWITCH, or none, all nodes are in one segment.)": none
    static void promise19NoRingSwitch() {
        RingProtection ring = new RingProtection();
        segmentsAre("quiet", ring, 0, 0, 0, 0);
        for (int span = 0; span < 4; span++) {
            ring.command(span, FORCED_SPAN);
        }
        segmentsAre("span switches alone", ring, 0, 0, 0, 0);
        for (int span = 0; span < 4; span++) {
            ring.command(span, NO_REQUEST);
        }
        ring.command(0, LOCKOUT);
        Cases.cut(ring, 1, 2, 3);
        segmentsAre("spans down without a switch", ring, 0, 0, 0, 0);
    }

    // the same: one, on each span of each ring
    static void promise19OneRingSwitch() {
        for (int nodes = 3; nodes <= 8; nodes++) {
            for (int span = 0; span < nodes; span++) {
                RingProtection ring = Cases.ringOf(nodes, 1);
                ring.command(span, FORCED_RING);
                for (int node = 0; node < nodes; node++) {
                    Cases.is("switch " + span + " of " + nodes + ", node " + node,
                        ring.segment(node), 0);
                }
            }
        }
    }

    // "If all spans with RING_SWITCH are removed from the ring, the nodes fall into segments": two
    static void promise19TwoRingSwitches() {
        RingProtection ring = Cases.ringOf(6, 1);
        ring.command(1, FORCED_RING);
        ring.command(4, FORCED_RING);
        segmentsAre("a segment over the last span", ring, 0, 0, 2, 2, 2, 0);
        ring.command(4, NO_REQUEST);
        ring.command(5, FORCED_RING);
        segmentsAre("the last span is removed", ring, 0, 0, 2, 2, 2, 2);
    }

    // the same: a single node between two switches, at each place
    static void promise19NodeAlone() {
        for (int nodes = 3; nodes <= 8; nodes++) {
            for (int alone = 0; alone < nodes; alone++) {
                RingProtection ring = Cases.ringOf(nodes, 1);
                ring.failNode(alone, true);
                int others = alone == 0 ? 1 : 0;
                for (int node = 0; node < nodes; node++) {
                    Cases.is("node " + node + " of " + nodes + ", alone is " + alone,
                        ring.segment(node), node == alone ? alone : others);
                }
            }
        }
    }

    // the same: all spans, or all but one, removed
    static void promise19AllRingSwitches() {
        RingProtection ring = Cases.ringOf(8, 1);
        for (int span = 0; span < 8; span++) {
            ring.command(span, FORCED_RING);
        }
        segmentsAre("all", ring, 0, 1, 2, 3, 4, 5, 6, 7);
        ring.command(7, NO_REQUEST);
        segmentsAre("all but the last", ring, 0, 1, 2, 3, 4, 5, 6, 0);
        ring.command(7, FORCED_RING);
        ring.command(0, NO_REQUEST);
        segmentsAre("all but the first", ring, 0, 0, 2, 3, 4, 5, 6, 7);
    }
}
