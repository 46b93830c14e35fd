import java.util.Random;

/** All promises: long runs of drawn calls, always the same ones, against the model. */
public final class RandomRunsTest {
    private static final int RUNS = 2500;
    private static final int CALLS = 512;
    private static final int[] ODD =
        {-1, Integer.MIN_VALUE, Integer.MAX_VALUE, 8, 16, 31, 32, 33, 64, 100, 101, -2};
    private static final int[] COMMANDS = {0, 0, 0, 3, 4, 7, 8, 9};
    private static final Due due = new Due();

    private final Random draw;
    private final RingProtection ring = new RingProtection();
    private final Model model = new Model();
    private int nodes = 4;
    private int calmness;

    private RandomRunsTest(long seed) {
        draw = new Random(seed);
    }

    public static void main(String[] args) {
        for (int run = 0; run < RUNS && due.wrongSoFar() == 0; run++) {
            new RandomRunsTest(run).run(run);
        }
        due.end();
    }

    private void run(int number) {
        calmness = draw.nextInt(5);
        int calls = 0;
        while (calls < CALLS && due.wrongSoFar() == 0) {
            calls++;
            int kind = draw.nextInt(100);
            String where = "run " + number + ", call " + calls + ": ";
            if (kind < 40) {
                change(where, kind);
            } else {
                ask(where, draw.nextInt(18));
            }
        }
    }

    /** Mostly a number below the limit, seldom a wild one. */
    private int number(int limit) {
        if (draw.nextInt(60) == 0) {
            return ODD[draw.nextInt(ODD.length)];
        }
        return draw.nextInt(40) == 0 ? limit : draw.nextInt(limit);
    }

    private void is(int promise, String what, int got, int want) {
        due.is(promise, what, got, want);
    }

    private void change(String where, int kind) {
        if (kind < 12) {
            changeCircuits(where, kind);
        } else if (kind < 34) {
            disturb(where, kind);
        } else {
            changeRing(where, draw.nextInt(24));
        }
    }

    private void changeCircuits(String where, int kind) {
        if (kind < 10) {
            int first = number(nodes);
            int second = number(nodes);
            int slot = number(4);
            boolean clockwise = draw.nextBoolean();
            boolean extra = draw.nextInt(3) == 0;
            is(3, where + "addCircuit(" + first + ", " + second + ", " + clockwise + ", " + slot
                + ", " + extra + ")", ring.addCircuit(first, second, clockwise, slot, extra),
                model.addCircuit(first, second, clockwise, slot, extra));
        } else {
            int circuit = number(16);
            is(4, where + "removeCircuit(" + circuit + ")", ring.removeCircuit(circuit),
                model.removeCircuit(circuit));
        }
    }

    private void disturb(String where, int kind) {
        int place = number(nodes);
        boolean failed = draw.nextInt(6) > calmness;
        if (kind < 20) {
            is(9, where + "failWorking(" + place + ", " + failed + ")",
                ring.failWorking(place, failed), model.failWorking(place, failed));
        } else if (kind < 25) {
            is(10, where + "failProtection(" + place + ", " + failed + ")",
                ring.failProtection(place, failed), model.failProtection(place, failed));
        } else if (kind < 28) {
            is(11, where + "failNode(" + place + ", " + failed + ")",
                ring.failNode(place, failed), model.failNode(place, failed));
        } else {
            boolean drawn = draw.nextInt(6) > calmness;
            int command = drawn ? COMMANDS[draw.nextInt(COMMANDS.length)] : 0;
            command = draw.nextInt(30) == 0 ? number(11) : command;
            is(12, where + "command(" + place + ", " + command + ")",
                ring.command(place, command), model.command(place, command));
        }
    }

    private void changeRing(String where, int kind) {
        if (kind < 14) {
            int seconds = draw.nextInt(10) == 0 ? number(101) : 1 + draw.nextInt(4);
            is(14, where + "advance(" + seconds + ")", ring.advance(seconds),
                model.advance(seconds));
        } else if (kind < 17) {
            int seconds = draw.nextBoolean() ? number(61) : draw.nextInt(6);
            is(13, where + "setRestoreTime(" + seconds + ")", ring.setRestoreTime(seconds),
                model.setRestoreTime(seconds));
        } else if (kind < 20) {
            int slot = number(2);
            is(29, where + "save(" + slot + ")", ring.save(slot), model.save(slot));
        } else if (kind < 22) {
            int slot = number(2);
            is(30, where + "restore(" + slot + ")", ring.restore(slot), model.restore(slot));
        } else {
            int size = number(9);
            int slots = number(5);
            is(2, where + "reset(" + size + ", " + slots + ")", ring.reset(size, slots),
                model.reset(size, slots));
        }
        nodes = countNodes();
    }

    private int countNodes() {
        int count = 0;
        while (model.segment(count) >= 0) {
            count++;
        }
        return count;
    }

    private void ask(String where, int kind) {
        int place = number(nodes);
        int circuit = number(16);
        String at = where + "asked for " + place + " or " + circuit;
        switch (kind) {
            case 0 -> is(5, at, ring.circuitCount(), model.circuitCount());
            case 1 -> askFreeSlot(where);
            case 2 -> is(7, at, ring.circuitsOn(place), model.circuitsOn(place));
            case 3 -> is(8, at, ring.pathLength(circuit), model.pathLength(circuit));
            case 4 -> is(15, at, ring.clock(), model.clock());
            case 5 -> is(16, at, ring.request(place), model.request(place));
            case 6 -> is(17, at, ring.switchOf(place), model.switchOf(place));
            case 7 -> is(18, at, ring.restoreTimer(place), model.restoreTimer(place));
            case 8 -> is(19, at, ring.segment(place), model.segment(place));
            case 9 -> is(20, at, ring.state(circuit), model.state(circuit));
            case 10 -> askCircuitsIn(where);
            case 11 -> is(22, at, ring.deliveredCount(), model.deliveredCount());
            case 12 -> is(23, at, ring.hops(circuit), model.hops(circuit));
            case 13 -> is(24, at, ring.averageHops(), model.averageHops());
            case 14 -> is(25, at, ring.squelchedAt(place), model.squelchedAt(place));
            case 15 -> is(26, at, ring.deliveredIfCut(place), model.deliveredIfCut(place));
            case 16 -> is(27, at, ring.deliveredIfNodeFails(place),
                model.deliveredIfNodeFails(place));
            default -> is(28, at, ring.worstCut(), model.worstCut());
        }
    }

    private void askFreeSlot(String where) {
        int first = number(nodes);
        int second = number(nodes);
        boolean clockwise = draw.nextBoolean();
        boolean extra = draw.nextBoolean();
        is(6, where + "freeSlot(" + first + ", " + second + ", " + clockwise + ", " + extra + ")",
            ring.freeSlot(first, second, clockwise, extra),
            model.freeSlot(first, second, clockwise, extra));
    }

    private void askCircuitsIn(String where) {
        int state = number(6);
        is(21, where + "circuitsIn(" + state + ")", ring.circuitsIn(state),
            model.circuitsIn(state));
    }
}
