import java.util.ArrayList;
import java.util.Comparator;
import java.util.List;
import java.util.Set;
import java.util.TreeSet;

/**
 * The document once more, word by word and without regard to speed: RandomRunsTest compares the
 * program with it. It shares no code and no way of holding the state with the program.
 */
final class Model {
    private static final class Circuit {
        final int first;
        final int second;
        final int slot;
        final boolean extra;
        final Set<Integer> path;

        Circuit(int first, int second, int slot, boolean extra, Set<Integer> path) {
            this.first = first;
            this.second = second;
            this.slot = slot;
            this.extra = extra;
            this.path = path;
        }
    }

    private static final class Span {
        boolean workingFailed;
        boolean protectionFailed;
        int command;
        int timer;
        int held;
        int lastDirect;
        int lastSwitch;

        Span copy() {
            Span span = new Span();
            span.workingFailed = workingFailed;
            span.protectionFailed = protectionFailed;
            span.command = command;
            span.timer = timer;
            span.held = held;
            span.lastDirect = lastDirect;
            span.lastSwitch = lastSwitch;
            return span;
        }
    }

    private int n = 4;
    private int slots = 2;
    private int restoreTime = 5;
    private int time;
    private Circuit[] circuits = new Circuit[16];
    private Span[] spans = newSpans(4);
    private boolean[] nodeFailed = new boolean[4];
    private final Model[] saved = new Model[2];

    private static Span[] newSpans(int n) {
        Span[] spans = new Span[n];
        for (int i = 0; i < n; i++) {
            spans[i] = new Span();
        }
        return spans;
    }

    private void become(Model other) {
        n = other.n;
        slots = other.slots;
        restoreTime = other.restoreTime;
        time = other.time;
        circuits = other.circuits.clone();
        nodeFailed = other.nodeFailed.clone();
        spans = new Span[n];
        for (int i = 0; i < n; i++) {
            spans[i] = other.spans[i].copy();
        }
    }

    private Model copy() {
        Model model = new Model();
        model.become(this);
        return model;
    }

    private boolean in(int number) {
        return number >= 0 && number < n;
    }

    private boolean isCircuit(int c) {
        return c >= 0 && c < 16 && circuits[c] != null;
    }

    private Set<Integer> path(int first, int second, boolean clockwise) {
        Set<Integer> passed = new TreeSet<>();
        for (int node = first; node != second; node = (node + 1) % n) {
            passed.add(node);
        }
        if (clockwise) {
            return passed;
        }
        Set<Integer> others = new TreeSet<>();
        for (int span = 0; span < n; span++) {
            if (!passed.contains(span)) {
                others.add(span);
            }
        }
        return others;
    }

    private boolean slotTaken(Set<Integer> path, int slot, boolean extra) {
        for (Circuit circuit : circuits) {
            if (circuit != null && circuit.extra == extra && circuit.slot == slot) {
                for (int span : circuit.path) {
                    if (path.contains(span)) {
                        return true;
                    }
                }
            }
        }
        return false;
    }

    int reset(int nodes, int newSlots) {
        if (nodes < 3 || nodes > 8 || newSlots < 1 || newSlots > 4) {
            return RingProtection.BAD_VALUE;
        }
        int previous = n;
        Model fresh = new Model();
        fresh.n = nodes;
        fresh.slots = newSlots;
        fresh.restoreTime = restoreTime;
        fresh.spans = newSpans(nodes);
        fresh.nodeFailed = new boolean[nodes];
        become(fresh);
        return previous;
    }

    int addCircuit(int first, int second, boolean clockwise, int slot, boolean extra) {
        if (!in(first) || !in(second)) {
            return RingProtection.NO_SUCH_NODE;
        }
        if (first == second) {
            return RingProtection.SAME_NODE;
        }
        if (slot < 0 || slot >= slots) {
            return RingProtection.BAD_VALUE;
        }
        if (circuitCount() == 16) {
            return RingProtection.TOO_MANY_CIRCUITS;
        }
        Set<Integer> path = path(first, second, clockwise);
        if (slotTaken(path, slot, extra)) {
            return RingProtection.SLOT_IN_USE;
        }
        int number = 0;
        while (circuits[number] != null) {
            number++;
        }
        circuits[number] = new Circuit(first, second, slot, extra, path);
        return number;
    }

    int removeCircuit(int c) {
        if (!isCircuit(c)) {
            return RingProtection.NO_SUCH_CIRCUIT;
        }
        circuits[c] = null;
        return circuitCount();
    }

    int circuitCount() {
        int count = 0;
        for (Circuit circuit : circuits) {
            count += circuit != null ? 1 : 0;
        }
        return count;
    }

    int freeSlot(int first, int second, boolean clockwise, boolean extra) {
        if (!in(first) || !in(second)) {
            return RingProtection.NO_SUCH_NODE;
        }
        if (first == second) {
            return RingProtection.SAME_NODE;
        }
        for (int slot = 0; slot < slots; slot++) {
            if (!slotTaken(path(first, second, clockwise), slot, extra)) {
                return slot;
            }
        }
        return RingProtection.NONE;
    }

    int circuitsOn(int span) {
        if (!in(span)) {
            return RingProtection.NO_SUCH_SPAN;
        }
        int set = 0;
        for (int c = 0; c < 16; c++) {
            if (circuits[c] != null && circuits[c].path.contains(span)) {
                set += 1 << c;
            }
        }
        return set;
    }

    int pathLength(int c) {
        return isCircuit(c) ? circuits[c].path.size() : RingProtection.NO_SUCH_CIRCUIT;
    }

    int failWorking(int span, boolean failed) {
        if (!in(span)) {
            return RingProtection.NO_SUCH_SPAN;
        }
        boolean before = spans[span].workingFailed;
        spans[span].workingFailed = failed;
        if (before != failed) {
            control();
        }
        return before ? 1 : 0;
    }

    int failProtection(int span, boolean failed) {
        if (!in(span)) {
            return RingProtection.NO_SUCH_SPAN;
        }
        boolean before = spans[span].protectionFailed;
        spans[span].protectionFailed = failed;
        if (before != failed) {
            control();
        }
        return before ? 1 : 0;
    }

    int failNode(int node, boolean failed) {
        if (!in(node)) {
            return RingProtection.NO_SUCH_NODE;
        }
        boolean before = nodeFailed[node];
        nodeFailed[node] = failed;
        if (before != failed) {
            control();
        }
        return before ? 1 : 0;
    }

    int command(int span, int command) {
        if (!in(span)) {
            return RingProtection.NO_SUCH_SPAN;
        }
        if (!List.of(0, 3, 4, 7, 8, 9).contains(command)) {
            return RingProtection.BAD_VALUE;
        }
        int before = spans[span].command;
        spans[span].command = command;
        if (before != command) {
            control();
        }
        return before;
    }

    int setRestoreTime(int seconds) {
        if (seconds < 0 || seconds > 60) {
            return RingProtection.BAD_VALUE;
        }
        int before = restoreTime;
        restoreTime = seconds;
        return before;
    }

    int advance(int seconds) {
        if (seconds < 1 || seconds > 100) {
            return RingProtection.BAD_VALUE;
        }
        for (int i = 0; i < seconds; i++) {
            time++;
            for (Span span : spans) {
                span.timer = Math.max(0, span.timer - 1);
            }
            control();
        }
        return time;
    }

    int clock() {
        return time;
    }

    private boolean workingDown(int span) {
        return spans[span].workingFailed || nodeFailed[span] || nodeFailed[(span + 1) % n];
    }

    private boolean protectionDown(int span) {
        return spans[span].protectionFailed || nodeFailed[span] || nodeFailed[(span + 1) % n];
    }

    private boolean applies(int span, int request) {
        boolean working = workingDown(span);
        boolean protection = protectionDown(span);
        int command = spans[span].command;
        switch (request) {
            case RingProtection.LOCKOUT:
                return command == request || protection && !working;
            case RingProtection.FORCED_RING:
            case RingProtection.MANUAL_RING:
                return command == request;
            case RingProtection.FORCED_SPAN:
            case RingProtection.MANUAL_SPAN:
                return command == request && !protection;
            case RingProtection.FAIL_RING:
                return working && protection;
            case RingProtection.FAIL_SPAN:
                return working && !protection;
            default:
                return request == RingProtection.NO_REQUEST;
        }
    }

    private int direct(int span) {
        int request = RingProtection.LOCKOUT;
        while (!applies(span, request)) {
            request--;
        }
        return request;
    }

    int request(int span) {
        if (!in(span)) {
            return RingProtection.NO_SUCH_SPAN;
        }
        int direct = direct(span);
        return direct == 0 && spans[span].timer > 0 ? spans[span].held : direct;
    }

    private int[] grantedSwitches() {
        List<Integer> order = new ArrayList<>();
        boolean lockout = false;
        for (int span = 0; span < n; span++) {
            order.add(span);
            lockout |= request(span) == RingProtection.LOCKOUT;
        }
        order.sort(Comparator.comparing((Integer span) -> -request(span)));
        int[] switches = new int[n];
        boolean anySpan = false;
        boolean anyRing = false;
        for (int span : order) {
            switch (request(span)) {
                case RingProtection.FORCED_RING, RingProtection.FAIL_RING ->
                    switches[span] = lockout || anySpan ? 0 : 2;
                case RingProtection.MANUAL_RING, RingProtection.WAIT_RING ->
                    switches[span] = lockout || anySpan || anyRing ? 0 : 2;
                case RingProtection.LOCKOUT, RingProtection.NO_REQUEST -> switches[span] = 0;
                default -> switches[span] = anyRing ? 0 : 1;
            }
            anySpan |= switches[span] == 1;
            anyRing |= switches[span] == 2;
        }
        return switches;
    }

    private void control() {
        for (int i = 0; i < n; i++) {
            Span span = spans[i];
            int direct = direct(i);
            if ((span.lastDirect == 5 || span.lastDirect == 6) && span.lastSwitch != 0
                && direct == 0 && restoreTime > 0) {
                span.timer = restoreTime;
                span.held = span.lastSwitch == 1
                    ? RingProtection.WAIT_SPAN : RingProtection.WAIT_RING;
            }
            if (direct != 0) {
                span.timer = 0;
            }
        }
        int[] switches = grantedSwitches();
        for (int i = 0; i < n; i++) {
            if ((request(i) == 1 || request(i) == 2) && switches[i] == 0) {
                spans[i].timer = 0;
            }
            spans[i].lastSwitch = switches[i];
            spans[i].lastDirect = direct(i);
        }
    }

    int switchOf(int span) {
        return in(span) ? spans[span].lastSwitch : RingProtection.NO_SUCH_SPAN;
    }

    int restoreTimer(int span) {
        return in(span) ? spans[span].timer : RingProtection.NO_SUCH_SPAN;
    }

    private Set<Integer> segmentSet(int node) {
        Set<Integer> reached = new TreeSet<>();
        reached.add(node);
        for (int round = 0; round < n; round++) {
            for (int span = 0; span < n; span++) {
                int a = span;
                int b = (span + 1) % n;
                if (spans[span].lastSwitch != 2 && (reached.contains(a) || reached.contains(b))) {
                    reached.add(a);
                    reached.add(b);
                }
            }
        }
        return reached;
    }

    int segment(int node) {
        return in(node) ? ((TreeSet<Integer>) segmentSet(node)).first()
            : RingProtection.NO_SUCH_NODE;
    }

    private boolean hasSwitch(Set<Integer> path, int kind) {
        for (int span : path) {
            if (spans[span].lastSwitch == kind) {
                return true;
            }
        }
        return false;
    }

    int state(int c) {
        if (!isCircuit(c)) {
            return RingProtection.NO_SUCH_CIRCUIT;
        }
        return circuits[c].extra ? extraState(circuits[c]) : normalState(circuits[c]);
    }

    private int normalState(Circuit circuit) {
        boolean ring = hasSwitch(circuit.path, 2);
        Set<Integer> segment = segmentSet(circuit.first);
        if (ring && !segment.contains(circuit.second)) {
            return RingProtection.SQUELCHED;
        }
        for (int span : circuit.path) {
            boolean inside = segment.contains(span) && segment.contains((span + 1) % n);
            if (workingDown(span) && spans[span].lastSwitch == 0 && (!ring || inside)) {
                return RingProtection.LOST;
            }
        }
        if (ring) {
            return RingProtection.RING_PROTECTED;
        }
        return hasSwitch(circuit.path, 1)
            ? RingProtection.SPAN_PROTECTED : RingProtection.UNDISTURBED;
    }

    private int extraState(Circuit circuit) {
        for (Span span : spans) {
            if (span.lastSwitch == 2) {
                return RingProtection.PREEMPTED;
            }
        }
        if (hasSwitch(circuit.path, 1)) {
            return RingProtection.PREEMPTED;
        }
        for (int span : circuit.path) {
            if (protectionDown(span)) {
                return RingProtection.LOST;
            }
        }
        return RingProtection.UNDISTURBED;
    }

    int circuitsIn(int state) {
        if (state < 0 || state > 5) {
            return RingProtection.BAD_VALUE;
        }
        int set = 0;
        for (int c = 0; c < 16; c++) {
            if (state(c) == state) {
                set += 1 << c;
            }
        }
        return set;
    }

    private boolean delivered(int c) {
        return List.of(0, 1, 2).contains(state(c));
    }

    int deliveredCount() {
        int count = 0;
        for (int c = 0; c < 16; c++) {
            count += delivered(c) ? 1 : 0;
        }
        return count;
    }

    int hops(int c) {
        if (!isCircuit(c)) {
            return RingProtection.NO_SUCH_CIRCUIT;
        }
        if (!delivered(c)) {
            return RingProtection.NONE;
        }
        if (state(c) != RingProtection.RING_PROTECTED) {
            return circuits[c].path.size();
        }
        Set<Integer> segment = segmentSet(circuits[c].second);
        int hops = 0;
        for (int span = 0; span < n; span++) {
            boolean counts = segment.contains(span) && segment.contains((span + 1) % n)
                && spans[span].lastSwitch != 2;
            if (counts) {
                hops += circuits[c].path.contains(span) ? 2 : 1;
            }
        }
        return hops;
    }

    int averageHops() {
        int sum = 0;
        for (int c = 0; c < 16; c++) {
            sum += delivered(c) ? hops(c) : 0;
        }
        return deliveredCount() == 0 ? RingProtection.NONE
            : Math.floorDiv(100 * sum, deliveredCount());
    }

    int squelchedAt(int node) {
        if (!in(node)) {
            return RingProtection.NO_SUCH_NODE;
        }
        int set = 0;
        for (int c = 0; c < 16; c++) {
            if (state(c) == RingProtection.SQUELCHED && switchesAt(circuits[c], node)) {
                set += 1 << c;
            }
        }
        return set;
    }

    private boolean switchesAt(Circuit circuit, int node) {
        for (int span : circuit.path) {
            boolean endsHere = span == node || (span + 1) % n == node;
            if (endsHere && spans[span].lastSwitch == 2) {
                return true;
            }
        }
        return false;
    }

    int deliveredIfCut(int span) {
        if (!in(span)) {
            return RingProtection.NO_SUCH_SPAN;
        }
        Model plan = copy();
        plan.spans[span].workingFailed = true;
        plan.spans[span].protectionFailed = true;
        plan.control();
        return plan.deliveredCount();
    }

    int deliveredIfNodeFails(int node) {
        if (!in(node)) {
            return RingProtection.NO_SUCH_NODE;
        }
        Model plan = copy();
        plan.failNode(node, true);
        return plan.deliveredCount();
    }

    int worstCut() {
        int worst = n - 1;
        for (int span = n - 2; span >= 0; span--) {
            if (deliveredIfCut(span) <= deliveredIfCut(worst)) {
                worst = span;
            }
        }
        return worst;
    }

    int save(int slot) {
        if (slot != 0 && slot != 1) {
            return RingProtection.BAD_VALUE;
        }
        saved[slot] = copy();
        return time;
    }

    int restore(int slot) {
        if (slot != 0 && slot != 1) {
            return RingProtection.BAD_VALUE;
        }
        if (saved[slot] == null) {
            return RingProtection.NOT_SAVED;
        }
        become(saved[slot]);
        return time;
    }
}
