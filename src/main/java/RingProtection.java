/**
 * A simulator of a four-fiber bidirectional line-switched ring (BLSR): span switching, ring
 * switching, squelching, extra traffic and wait-to-restore.
 *
 * <p>Sets of circuits, spans and nodes are bit masks: bit i is set if number i is in the set.
 */
public final class RingProtection {
    public static final int NO_SUCH_NODE = -1, NO_SUCH_SPAN = -2, NO_SUCH_CIRCUIT = -3, BAD_VALUE = -4, SAME_NODE = -5, SLOT_IN_USE = -6, TOO_MANY_CIRCUITS = -7, NOT_SAVED = -8, NONE = -9;
    public static final int NO_REQUEST = 0, WAIT_SPAN = 1, WAIT_RING = 2, MANUAL_SPAN = 3, MANUAL_RING = 4, FAIL_SPAN = 5, FAIL_RING = 6, FORCED_SPAN = 7, FORCED_RING = 8, LOCKOUT = 9;
    public static final int NO_SWITCH = 0, SPAN_SWITCH = 1, RING_SWITCH = 2;
    public static final int UNDISTURBED = 0, SPAN_PROTECTED = 1, RING_PROTECTED = 2, SQUELCHED = 3, LOST = 4, PREEMPTED = 5;

    private static final int MIN_NODES = 3;
    private static final int MAX_NODES = 8;
    private static final int MAX_SLOTS = 4;
    private static final int MAX_CIRCUITS = 16;
    private static final int MAX_RESTORE_TIME = 60;
    private static final int MAX_ADVANCE = 100;
    private static final int FIRST_NODES = 4;
    private static final int FIRST_SLOTS = 2;
    private static final int FIRST_RESTORE_TIME = 5;

    private final Simulation current;
    // Planning calls try a failure out on this one, so that the current one stays as it is.
    private final Simulation trial;
    private final Snapshot snapshot0;
    private final Snapshot snapshot1;

    public RingProtection() {
        current = new Simulation();
        trial = new Simulation();
        snapshot0 = new Snapshot();
        snapshot1 = new Snapshot();
    }

    // ---- ring and circuits

    public int reset(int nodes, int slots) {
        if (nodes < MIN_NODES || nodes > MAX_NODES || slots < 1 || slots > MAX_SLOTS) {
            return BAD_VALUE;
        }
        int previousNodes = current.shape.nodes;
        current.startAnew(nodes, slots);
        return previousNodes;
    }

    public int addCircuit(int first, int second, boolean clockwise, int slot, boolean extra) {
        int fault = faultOfEnds(first, second);
        if (fault != 0) {
            return fault;
        }
        if (slot < 0 || slot >= current.shape.slots) {
            return BAD_VALUE;
        }
        int number = current.circuits.smallestFreeNumber();
        if (number == NONE) {
            return TOO_MANY_CIRCUITS;
        }
        int path = current.shape.route(first, second, clockwise);
        if (contains(current.circuits.slotsUsed(path, extra), slot)) {
            return SLOT_IN_USE;
        }
        current.circuits.putEnds(number, first, second);
        current.circuits.putRoute(number, path, slot, extra);
        return number;
    }

    public int removeCircuit(int circuit) {
        if (!current.circuits.has(circuit)) {
            return NO_SUCH_CIRCUIT;
        }
        current.circuits.takeAway(circuit);
        return current.circuits.count();
    }

    public int circuitCount() {
        return current.circuits.count();
    }

    public int freeSlot(int first, int second, boolean clockwise, boolean extra) {
        int fault = faultOfEnds(first, second);
        if (fault != 0) {
            return fault;
        }
        int path = current.shape.route(first, second, clockwise);
        int used = current.circuits.slotsUsed(path, extra);
        for (int slot = 0; slot < current.shape.slots; slot++) {
            if (!contains(used, slot)) {
                return slot;
            }
        }
        return NONE;
    }

    public int circuitsOn(int span) {
        if (!current.shape.hasSpan(span)) {
            return NO_SUCH_SPAN;
        }
        return current.circuits.crossing(1 << span);
    }

    public int pathLength(int circuit) {
        if (!current.circuits.has(circuit)) {
            return NO_SUCH_CIRCUIT;
        }
        return Integer.bitCount(current.circuits.pathOf(circuit));
    }

    // ---- failures, commands, time

    public int failWorking(int span, boolean failed) {
        if (!current.shape.hasSpan(span)) {
            return NO_SUCH_SPAN;
        }
        int before = current.controller.failedWorking;
        current.controller.failedWorking = marked(before, span, failed);
        current.controller.run();
        return contains(before, span) ? 1 : 0;
    }

    public int failProtection(int span, boolean failed) {
        if (!current.shape.hasSpan(span)) {
            return NO_SUCH_SPAN;
        }
        int before = current.controller.failedProtection;
        current.controller.failedProtection = marked(before, span, failed);
        current.controller.run();
        return contains(before, span) ? 1 : 0;
    }

    public int failNode(int node, boolean failed) {
        if (!current.shape.hasNode(node)) {
            return NO_SUCH_NODE;
        }
        int before = current.controller.failedNodes;
        current.controller.failedNodes = marked(before, node, failed);
        current.controller.run();
        return contains(before, node) ? 1 : 0;
    }

    public int command(int span, int command) {
        if (!current.shape.hasSpan(span)) {
            return NO_SUCH_SPAN;
        }
        if (!isCommand(command)) {
            return BAD_VALUE;
        }
        int before = current.controller.replaceCommand(span, command);
        current.controller.run();
        return before;
    }

    public int setRestoreTime(int seconds) {
        if (seconds < 0 || seconds > MAX_RESTORE_TIME) {
            return BAD_VALUE;
        }
        int before = current.controller.restoreTime;
        current.controller.restoreTime = seconds;
        return before;
    }

    public int advance(int seconds) {
        if (seconds < 1 || seconds > MAX_ADVANCE) {
            return BAD_VALUE;
        }
        for (int second = 0; second < seconds; second++) {
            current.passSecond();
        }
        return current.time;
    }

    public int clock() {
        return current.time;
    }

    // ---- requests, switches, segments

    public int request(int span) {
        if (!current.shape.hasSpan(span)) {
            return NO_SUCH_SPAN;
        }
        return current.controller.requestAt(span);
    }

    public int switchOf(int span) {
        if (!current.shape.hasSpan(span)) {
            return NO_SUCH_SPAN;
        }
        return current.controller.switchAt(span);
    }

    public int restoreTimer(int span) {
        if (!current.shape.hasSpan(span)) {
            return NO_SUCH_SPAN;
        }
        return current.controller.timerAt(span);
    }

    public int segment(int node) {
        if (!current.shape.hasNode(node)) {
            return NO_SUCH_NODE;
        }
        return current.controller.segmentOf(node);
    }

    // ---- circuits as they are now

    public int state(int circuit) {
        if (!current.circuits.has(circuit)) {
            return NO_SUCH_CIRCUIT;
        }
        return current.stateOf(circuit);
    }

    public int circuitsIn(int state) {
        if (state < UNDISTURBED || state > PREEMPTED) {
            return BAD_VALUE;
        }
        return current.allInState(state);
    }

    public int deliveredCount() {
        return current.countDelivered();
    }

    public int hops(int circuit) {
        if (!current.circuits.has(circuit)) {
            return NO_SUCH_CIRCUIT;
        }
        return current.hopsOf(circuit);
    }

    public int averageHops() {
        int delivered = current.countDelivered();
        if (delivered <= 0) {
            return NONE;
        }
        return 100 * current.sumOfHops() / delivered;
    }

    public int squelchedAt(int node) {
        if (!current.shape.hasNode(node)) {
            return NO_SUCH_NODE;
        }
        int switchedHere = current.shape.spansAt(node) & current.controller.ringSwitched;
        return current.allInState(SQUELCHED) & current.circuits.crossing(switchedHere);
    }

    // ---- planning; these methods change nothing

    public int deliveredIfCut(int span) {
        if (!current.shape.hasSpan(span)) {
            return NO_SUCH_SPAN;
        }
        return deliveredAfterCut(span);
    }

    public int deliveredIfNodeFails(int node) {
        if (!current.shape.hasNode(node)) {
            return NO_SUCH_NODE;
        }
        trial.copyFrom(current);
        trial.controller.failedNodes |= 1 << node;
        trial.controller.run();
        return trial.countDelivered();
    }

    public int worstCut() {
        int worst = 0;
        int fewest = deliveredAfterCut(0);
        for (int span = 1; span < current.shape.nodes; span++) {
            int delivered = deliveredAfterCut(span);
            if (delivered < fewest) {
                worst = span;
                fewest = delivered;
            }
        }
        return worst;
    }

    // ---- snapshots

    public int save(int slot) {
        if (slot < 0 || slot > 1) {
            return BAD_VALUE;
        }
        Snapshot snapshot = slot == 0 ? snapshot0 : snapshot1;
        snapshot.kept.copyFrom(current);
        snapshot.taken = true;
        return current.time;
    }

    public int restore(int slot) {
        if (slot < 0 || slot > 1) {
            return BAD_VALUE;
        }
        Snapshot snapshot = slot == 0 ? snapshot0 : snapshot1;
        if (!snapshot.taken) {
            return NOT_SAVED;
        }
        current.copyFrom(snapshot.kept);
        return current.time;
    }

    // ---- helpers

    private int faultOfEnds(int first, int second) {
        if (!current.shape.hasNode(first) || !current.shape.hasNode(second)) {
            return NO_SUCH_NODE;
        }
        return first == second ? SAME_NODE : 0;
    }

    private int deliveredAfterCut(int span) {
        trial.copyFrom(current);
        trial.controller.failedWorking |= 1 << span;
        trial.controller.failedProtection |= 1 << span;
        // One run for both marks: the document lets them fail at the same moment.
        trial.controller.run();
        return trial.countDelivered();
    }

    private static boolean isCommand(int value) {
        return value == NO_REQUEST || value == MANUAL_SPAN || value == MANUAL_RING
            || value == FORCED_SPAN || value == FORCED_RING || value == LOCKOUT;
    }

    private static boolean isDelivery(int found) {
        return found == UNDISTURBED || found == SPAN_PROTECTED || found == RING_PROTECTED;
    }

    private static boolean contains(int set, int number) {
        return (set & (1 << number)) != 0;
    }

    private static int marked(int set, int number, boolean in) {
        return in ? set | (1 << number) : set & ~(1 << number);
    }

    private static void copyRow(int[] from, int[] to) {
        for (int i = 0; i < from.length && i < to.length; i++) {
            to[i] = from[i];
        }
    }

    private static void clearRow(int[] row) {
        for (int i = 0; i < row.length; i++) {
            row[i] = 0;
        }
    }

    /** The size of the ring, and which spans lie where. */
    private static final class Shape {
        private int nodes = FIRST_NODES;
        private int slots = FIRST_SLOTS;

        boolean hasNode(int number) {
            return number >= 0 && number < nodes;
        }

        boolean hasSpan(int number) {
            return number >= 0 && number < nodes;
        }

        int nodeAfter(int node) {
            return node + 1 < nodes ? node + 1 : 0;
        }

        int spansAt(int node) {
            int spanBefore = node > 0 ? node - 1 : nodes - 1;
            return (1 << node) | (1 << spanBefore);
        }

        int route(int first, int second, boolean clockwise) {
            int passed = 0;
            int node = first;
            for (int step = 0; step < nodes && node != second; step++) {
                passed |= 1 << node;
                node = nodeAfter(node);
            }
            int allSpans = (1 << nodes) - 1;
            return clockwise ? passed : allSpans & ~passed;
        }
    }

    /** The circuits by their numbers. */
    private static final class CircuitTable {
        private final int[] firstEnds = new int[MAX_CIRCUITS];
        private final int[] secondEnds = new int[MAX_CIRCUITS];
        // No path is empty, so an empty one says that there is no circuit of that number.
        private final int[] paths = new int[MAX_CIRCUITS];
        private final int[] slots = new int[MAX_CIRCUITS];
        private int extras;

        boolean has(int circuit) {
            return circuit >= 0 && circuit < MAX_CIRCUITS && paths[circuit] != 0;
        }

        int firstEndOf(int circuit) {
            return has(circuit) ? firstEnds[circuit] : 0;
        }

        int secondEndOf(int circuit) {
            return has(circuit) ? secondEnds[circuit] : 0;
        }

        int pathOf(int circuit) {
            return has(circuit) ? paths[circuit] : 0;
        }

        boolean isExtra(int circuit) {
            return contains(extras, circuit);
        }

        int count() {
            int count = 0;
            for (int circuit = 0; circuit < MAX_CIRCUITS; circuit++) {
                if (has(circuit)) {
                    count++;
                }
            }
            return count;
        }

        int smallestFreeNumber() {
            for (int circuit = 0; circuit < MAX_CIRCUITS; circuit++) {
                if (!has(circuit)) {
                    return circuit;
                }
            }
            return NONE;
        }

        int crossing(int spans) {
            int found = 0;
            for (int circuit = 0; circuit < MAX_CIRCUITS; circuit++) {
                if ((paths[circuit] & spans) != 0) {
                    found |= 1 << circuit;
                }
            }
            return found;
        }

        int slotsUsed(int spans, boolean extra) {
            int used = 0;
            for (int circuit = 0; circuit < MAX_CIRCUITS; circuit++) {
                if ((paths[circuit] & spans) != 0 && isExtra(circuit) == extra) {
                    used |= 1 << slots[circuit];
                }
            }
            return used;
        }

        void putEnds(int circuit, int first, int second) {
            if (circuit >= 0 && circuit < MAX_CIRCUITS) {
                firstEnds[circuit] = first;
                secondEnds[circuit] = second;
            }
        }

        void putRoute(int circuit, int path, int slot, boolean extra) {
            if (circuit >= 0 && circuit < MAX_CIRCUITS) {
                paths[circuit] = path;
                slots[circuit] = slot;
                extras = marked(extras, circuit, extra);
            }
        }

        void takeAway(int circuit) {
            putRoute(circuit, 0, 0, false);
        }

        void takeAllAway() {
            clearRow(paths);
            extras = 0;
        }

        void copyFrom(CircuitTable other) {
            copyRow(other.firstEnds, firstEnds);
            copyRow(other.secondEnds, secondEnds);
            copyRow(other.paths, paths);
            copyRow(other.slots, slots);
            extras = other.extras;
        }
    }

    /** Marks, commands and restore timers, and the switches that follow from them. */
    private static final class Controller {
        private final Shape shape = new Shape();
        private int failedWorking;
        private int failedProtection;
        private int failedNodes;
        // The rows have room for the largest ring, so every span of every ring has its place.
        private final int[] commands = new int[MAX_NODES];
        private final int[] timers = new int[MAX_NODES];
        private final int[] heldRequests = new int[MAX_NODES];
        private int restoreTime = FIRST_RESTORE_TIME;
        // From here on: what the last run found.
        private int workingDown;
        private int protectionDown;
        private final int[] directRequests = new int[MAX_NODES];
        private int spanSwitched;
        private int ringSwitched;
        private final int[] segments = new int[MAX_NODES];

        int replaceCommand(int span, int newCommand) {
            if (!shape.hasSpan(span)) {
                return NO_SUCH_SPAN;
            }
            int before = commands[span];
            commands[span] = newCommand;
            return before;
        }

        int timerAt(int span) {
            return shape.hasSpan(span) ? timers[span] : 0;
        }

        int segmentOf(int node) {
            return shape.hasNode(node) ? segments[node] : 0;
        }

        int requestAt(int span) {
            if (!shape.hasSpan(span)) {
                return NO_REQUEST;
            }
            int direct = directRequests[span];
            return direct == NO_REQUEST && timers[span] > 0 ? heldRequests[span] : direct;
        }

        int switchAt(int span) {
            if (contains(ringSwitched, span)) {
                return RING_SWITCH;
            }
            return contains(spanSwitched, span) ? SPAN_SWITCH : NO_SWITCH;
        }

        int spansInside(int segment) {
            int inside = 0;
            for (int span = 0; span < shape.nodes; span++) {
                int next = shape.nodeAfter(span);
                if (segments[span] == segment && segments[next] == segment) {
                    inside |= 1 << span;
                }
            }
            return inside;
        }

        void countTimersDown() {
            for (int span = 0; span < shape.nodes; span++) {
                if (timers[span] > 0) {
                    timers[span]--;
                }
            }
        }

        void run() {
            findCapacitiesDown();
            for (int span = 0; span < shape.nodes; span++) {
                takeDirectRequest(span);
            }
            grantSwitches();
            dropWaitsWithoutSwitch();
            findSegments();
        }

        private void findCapacitiesDown() {
            int cutByNodes = 0;
            for (int node = 0; node < shape.nodes; node++) {
                if (contains(failedNodes, node)) {
                    cutByNodes |= shape.spansAt(node);
                }
            }
            workingDown = failedWorking | cutByNodes;
            protectionDown = failedProtection | cutByNodes;
        }

        // The switches are still those of the previous run here.
        private void takeDirectRequest(int span) {
            int direct = Math.max(requestOfFailures(span), requestOfCommand(span));
            int old = directRequests[span];
            if (direct != NO_REQUEST) {
                timers[span] = 0;
            } else if ((old == FAIL_SPAN || old == FAIL_RING) && restoreTime > 0) {
                startWaiting(span);
            }
            directRequests[span] = direct;
        }

        private int requestOfFailures(int span) {
            boolean working = !contains(workingDown, span);
            if (contains(protectionDown, span)) {
                return working ? LOCKOUT : FAIL_RING;
            }
            return working ? NO_REQUEST : FAIL_SPAN;
        }

        private int requestOfCommand(int span) {
            int given = commands[span];
            boolean needsProtection = given == FORCED_SPAN || given == MANUAL_SPAN;
            return needsProtection && contains(protectionDown, span) ? NO_REQUEST : given;
        }

        private void startWaiting(int span) {
            int switched = switchAt(span);
            if (switched != NO_SWITCH) {
                timers[span] = restoreTime;
                heldRequests[span] = switched == SPAN_SWITCH ? WAIT_SPAN : WAIT_RING;
            }
        }

        private void grantSwitches() {
            spanSwitched = 0;
            ringSwitched = 0;
            boolean lockedOut = isLockedOut();
            for (int request = FORCED_RING; request >= WAIT_SPAN; request--) {
                for (int span = 0; span < shape.nodes; span++) {
                    if (requestAt(span) == request) {
                        grant(span, request, lockedOut);
                    }
                }
            }
        }

        private boolean isLockedOut() {
            for (int span = 0; span < shape.nodes; span++) {
                if (requestAt(span) == LOCKOUT) {
                    return true;
                }
            }
            return false;
        }

        private void grant(int span, int request, boolean lockedOut) {
            switch (request) {
                case FORCED_RING:
                case FAIL_RING:
                    if (!lockedOut && spanSwitched == 0) {
                        ringSwitched |= 1 << span;
                    }
                    break;
                case MANUAL_RING:
                case WAIT_RING:
                    if (!lockedOut && spanSwitched == 0 && ringSwitched == 0) {
                        ringSwitched |= 1 << span;
                    }
                    break;
                case FORCED_SPAN:
                case FAIL_SPAN:
                case MANUAL_SPAN:
                case WAIT_SPAN:
                    if (ringSwitched == 0) {
                        spanSwitched |= 1 << span;
                    }
                    break;
                default:
                    break;
            }
        }

        private void dropWaitsWithoutSwitch() {
            for (int span = 0; span < shape.nodes; span++) {
                int request = requestAt(span);
                boolean waits = request == WAIT_SPAN || request == WAIT_RING;
                if (waits && switchAt(span) == NO_SWITCH) {
                    timers[span] = 0;
                }
            }
        }

        private void findSegments() {
            int start = 0;
            for (int node = 0; node < shape.nodes; node++) {
                if (node > 0 && contains(ringSwitched, node - 1)) {
                    start = node;
                }
                segments[node] = start;
            }
            if (contains(ringSwitched, shape.nodes - 1)) {
                return;
            }
            // The last span closes the ring: the nodes before it belong to the segment of node 0.
            for (int node = start; node < shape.nodes; node++) {
                segments[node] = 0;
            }
        }

        void startAnew(int nodes, int slots) {
            shape.nodes = nodes;
            shape.slots = slots;
            failedWorking = 0;
            failedProtection = 0;
            failedNodes = 0;
            workingDown = 0;
            protectionDown = 0;
            spanSwitched = 0;
            ringSwitched = 0;
            clearRow(commands);
            clearRow(timers);
            clearRow(directRequests);
            clearRow(segments);
        }

        void copyFrom(Controller other) {
            shape.nodes = other.shape.nodes;
            shape.slots = other.shape.slots;
            failedWorking = other.failedWorking;
            failedProtection = other.failedProtection;
            failedNodes = other.failedNodes;
            restoreTime = other.restoreTime;
            workingDown = other.workingDown;
            protectionDown = other.protectionDown;
            spanSwitched = other.spanSwitched;
            ringSwitched = other.ringSwitched;
            copyRow(other.commands, commands);
            copyRow(other.timers, timers);
            copyRow(other.heldRequests, heldRequests);
            copyRow(other.directRequests, directRequests);
            copyRow(other.segments, segments);
        }
    }

    /** All that a snapshot holds, and how the circuits fare in it. */
    private static final class Simulation {
        private final CircuitTable circuits = new CircuitTable();
        private final Controller controller = new Controller();
        private final Shape shape = controller.shape;
        private int time;

        void startAnew(int nodes, int slots) {
            circuits.takeAllAway();
            controller.startAnew(nodes, slots);
            time = 0;
        }

        void copyFrom(Simulation other) {
            circuits.copyFrom(other.circuits);
            controller.copyFrom(other.controller);
            time = other.time;
        }

        void passSecond() {
            time++;
            controller.countTimersDown();
            controller.run();
        }

        int stateOf(int circuit) {
            return circuits.isExtra(circuit) ? stateOfExtra(circuit) : stateOfNormal(circuit);
        }

        private int stateOfExtra(int circuit) {
            int path = circuits.pathOf(circuit);
            if (controller.ringSwitched != 0 || (path & controller.spanSwitched) != 0) {
                return PREEMPTED;
            }
            return (path & controller.protectionDown) != 0 ? LOST : UNDISTURBED;
        }

        private int stateOfNormal(int circuit) {
            int path = circuits.pathOf(circuit);
            int ownSegment = controller.segmentOf(circuits.firstEndOf(circuit));
            int otherSegment = controller.segmentOf(circuits.secondEndOf(circuit));
            boolean ringSwitched = (path & controller.ringSwitched) != 0;
            if (ringSwitched && ownSegment != otherSegment) {
                return SQUELCHED;
            }
            int unprotected = path & controller.workingDown
                & ~controller.spanSwitched & ~controller.ringSwitched;
            if (ringSwitched) {
                // What lies beyond the switches is gone around, so it can do no harm.
                unprotected &= controller.spansInside(ownSegment);
            }
            if (unprotected != 0) {
                return LOST;
            }
            if (ringSwitched) {
                return RING_PROTECTED;
            }
            return (path & controller.spanSwitched) != 0 ? SPAN_PROTECTED : UNDISTURBED;
        }

        int allInState(int wanted) {
            int found = 0;
            for (int circuit = 0; circuit < MAX_CIRCUITS; circuit++) {
                if (circuits.has(circuit) && stateOf(circuit) == wanted) {
                    found |= 1 << circuit;
                }
            }
            return found;
        }

        int countDelivered() {
            int count = 0;
            for (int circuit = 0; circuit < MAX_CIRCUITS; circuit++) {
                if (circuits.has(circuit) && isDelivery(stateOf(circuit))) {
                    count++;
                }
            }
            return count;
        }

        int hopsOf(int circuit) {
            int found = stateOf(circuit);
            if (!isDelivery(found)) {
                return NONE;
            }
            int path = circuits.pathOf(circuit);
            if (found != RING_PROTECTED) {
                return Integer.bitCount(path);
            }
            int ownSegment = controller.segmentOf(circuits.firstEndOf(circuit));
            int open = controller.spansInside(ownSegment) & ~controller.ringSwitched;
            return Integer.bitCount(path & open) + Integer.bitCount(open);
        }

        int sumOfHops() {
            int sum = 0;
            for (int circuit = 0; circuit < MAX_CIRCUITS; circuit++) {
                int found = circuits.has(circuit) ? hopsOf(circuit) : NONE;
                if (found != NONE) {
                    sum += found;
                }
            }
            return sum;
        }
    }

    /** A saved state, made beforehand so that saving makes no objects. */
    private static final class Snapshot {
        private final Simulation kept = new Simulation();
        private boolean taken;
    }
}
