import java.lang.reflect.InvocationTargetException;
import java.lang.reflect.Method;
import java.util.TreeMap;

/**
 * Runs tests of boundary cases. Such a test is a static method whose name begins with "promise"
 * and the two digits of its promise; they are found by that name, so none can be forgotten.
 */
final class Cases implements Doc {
    /** How many kinds of busy rings there are. */
    static final int BUSY = 2;
    private static String running = "";
    private static int asked;
    private static int wrong;

    /** Runs all tests of a class and ends; each promise from first to last must have one. */
    static void run(Class<?> tests, int first, int last) throws IllegalAccessException {
        TreeMap<String, Method> found = new TreeMap<>();
        for (Method method : tests.getDeclaredMethods()) {
            if (method.getName().startsWith("promise")) {
                found.put(method.getName(), method);
            }
        }
        for (int promise = first; promise <= last; promise++) {
            String prefix = String.format("promise%02d", promise);
            if (found.keySet().stream().noneMatch(name -> name.startsWith(prefix))) {
                fault(prefix + " has no test");
            }
        }
        for (Method method : found.values()) {
            runOne(method);
        }
        System.out.println(found.size() + " tests, " + asked + " answers, " + wrong + " faults");
        if (wrong != 0) {
            System.exit(1);
        }
    }

    private static void runOne(Method method) throws IllegalAccessException {
        running = method.getName();
        int askedBefore = asked;
        try {
            method.invoke(null);
        } catch (InvocationTargetException thrown) {
            fault(running + " threw " + thrown.getCause());
        }
        if (asked == askedBefore) {
            fault(running + " asks nothing");
        }
    }

    private static void fault(String what) {
        wrong++;
        System.out.println(what);
    }

    static void is(String what, int got, int due) {
        asked++;
        if (got != due) {
            fault(running + ": " + what + " answered " + got + ", due is " + due);
        }
    }

    static RingProtection ringOf(int nodes, int slots) {
        RingProtection ring = new RingProtection();
        ring.reset(nodes, slots);
        return ring;
    }

    static void cut(RingProtection ring, int... spans) {
        for (int span : spans) {
            ring.failWorking(span, true);
            ring.failProtection(span, true);
        }
    }

    /** Makes the span wait, if its failure had got a span switch. */
    static void failAndMend(RingProtection ring, int span) {
        ring.failWorking(span, true);
        ring.failWorking(span, false);
    }

    /** 16 circuits on 8 nodes with 2 slots, one over each span in each slot of the working capacity. */
    static RingProtection fullRing() {
        RingProtection ring = ringOf(8, 2);
        for (int i = 0; i < 16; i++) {
            ring.addCircuit(i % 8, (i + 1) % 8, true, i / 8, false);
        }
        return ring;
    }

    /** A ring in which every part of the state differs from that of a new object. */
    static RingProtection busy(int kind) {
        return kind == 0 ? busyWithSpanSwitches() : busyWithRingSwitches();
    }

    private static RingProtection busyWithSpanSwitches() {
        RingProtection ring = ringOf(6, 3);
        ring.setRestoreTime(9);
        ring.advance(3);
        ring.addCircuit(0, 2, true, 0, false);
        ring.addCircuit(4, 1, true, 1, false);
        ring.addCircuit(2, 4, true, 2, true);
        ring.addCircuit(5, 4, false, 0, true);
        ring.addCircuit(1, 0, true, 2, false);
        ring.removeCircuit(0);
        ring.save(0);
        failAndMend(ring, 1);
        ring.advance(2);
        ring.failWorking(3, true);
        ring.command(0, LOCKOUT);
        ring.command(4, MANUAL_SPAN);
        ring.failProtection(2, true);
        ring.failNode(5, true);
        is("the busy ring waits", ring.restoreTimer(1), 7);
        return ring;
    }

    private static RingProtection busyWithRingSwitches() {
        RingProtection ring = ringOf(8, 4);
        ring.setRestoreTime(60);
        ring.addCircuit(0, 4, true, 0, false);
        ring.addCircuit(0, 4, false, 3, false);
        ring.addCircuit(7, 0, true, 0, true);
        ring.addCircuit(7, 3, false, 1, false);
        ring.advance(100);
        ring.save(1);
        ring.failNode(2, true);
        cut(ring, 5);
        ring.command(7, FORCED_RING);
        ring.advance(1);
        ring.save(0);
        ring.failNode(2, false);
        is("the busy ring is switched", ring.switchOf(5), RING_SWITCH);
        return ring;
    }

    /** Two objects with different pasts answer the same, now and after the same further calls. */
    static void same(String what, RingProtection ring, RingProtection twin) {
        String now = what + ", now: ";
        sameQuestions(now, ring, twin);
        for (int i = 0; i < 8; i++) {
            for (int kind = 0; kind < 2; kind++) {
                is(now + "freeSlot from " + i, ring.freeSlot(i, (i + 1) % 8, true, kind == 0),
                    twin.freeSlot(i, (i + 1) % 8, true, kind == 0));
            }
        }
        for (int slot = 0; slot <= 4; slot++) {
            for (int kind = 0; kind < 2; kind++) {
                is(what + ": addCircuit in slot " + slot,
                    ring.addCircuit(0, 1, true, slot, kind == 0),
                    twin.addCircuit(0, 1, true, slot, kind == 0));
            }
        }
        is(what + ": advance", ring.advance(1), twin.advance(1));
        for (int i = 0; i < 8; i++) {
            is(what + ": command " + i, ring.command(i, 0), twin.command(i, 0));
            is(what + ": node mark " + i, ring.failNode(i, false), twin.failNode(i, false));
            is(what + ": working mark " + i, ring.failWorking(i, false),
                twin.failWorking(i, false));
            is(what + ": protection mark " + i, ring.failProtection(i, false),
                twin.failProtection(i, false));
            is(what + ": timer " + i, ring.restoreTimer(i), twin.restoreTimer(i));
        }
        is(what + ": setRestoreTime", ring.setRestoreTime(1), twin.setRestoreTime(1));
        for (int slot = 0; slot < 2; slot++) {
            is(what + ": restore " + slot, ring.restore(slot), twin.restore(slot));
            is(what + ": restored circuits", ring.circuitCount(), twin.circuitCount());
            is(what + ": restored switch", ring.switchOf(1), twin.switchOf(1));
            is(what + ": restored state", ring.state(1), twin.state(1));
        }
        is(what + ": reset", ring.reset(3, 1), twin.reset(3, 1));
    }

    private static void sameQuestions(String what, RingProtection ring, RingProtection twin) {
        for (int i = 0; i <= 8; i++) {
            is(what + "circuitsOn " + i, ring.circuitsOn(i), twin.circuitsOn(i));
            is(what + "request " + i, ring.request(i), twin.request(i));
            is(what + "switchOf " + i, ring.switchOf(i), twin.switchOf(i));
            is(what + "restoreTimer " + i, ring.restoreTimer(i), twin.restoreTimer(i));
            is(what + "segment " + i, ring.segment(i), twin.segment(i));
            is(what + "squelchedAt " + i, ring.squelchedAt(i), twin.squelchedAt(i));
            is(what + "deliveredIfCut " + i, ring.deliveredIfCut(i), twin.deliveredIfCut(i));
            is(what + "deliveredIfNodeFails " + i, ring.deliveredIfNodeFails(i),
                twin.deliveredIfNodeFails(i));
        }
        for (int circuit = 0; circuit < 16; circuit++) {
            is(what + "pathLength " + circuit, ring.pathLength(circuit),
                twin.pathLength(circuit));
            is(what + "state " + circuit, ring.state(circuit), twin.state(circuit));
            is(what + "hops " + circuit, ring.hops(circuit), twin.hops(circuit));
        }
        is(what + "circuitCount", ring.circuitCount(), twin.circuitCount());
        is(what + "clock", ring.clock(), twin.clock());
        is(what + "deliveredCount", ring.deliveredCount(), twin.deliveredCount());
        is(what + "averageHops", ring.averageHops(), twin.averageHops());
        is(what + "worstCut", ring.worstCut(), twin.worstCut());
    }
}
