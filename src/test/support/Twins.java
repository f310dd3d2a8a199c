import java.util.ArrayList;
import java.util.List;

/**
 * Looks whether a refused call has changed anything: of two objects made alike one is asked the call, and both are
 * asked the same behind it. What can't be read without a change is read by changing it, so each probe takes new twins.
 */
abstract class Twins extends Check {
    private static final int PROBES = 5;
    private static final int PARTS = 5;
    private static final int OPERATIONS = 10;
    private static final int POSITIONS = 9;

    interface Maker {
        Camslide make();
    }

    interface Use {
        Object on(Camslide x);
    }

    interface NumberedUse {
        Object on(Camslide x, int number);
    }

    static void refused(int promise, String what, Class<?> due, Maker maker, Use call) {
        is(promise, what, due, () -> call.on(maker.make()));
        for (int i = 0; i < PROBES; i++) {
            int probe = i;
            is(promise, what + " changes nothing, probe " + i, "alike", () -> difference(probe, maker, call));
        }
    }

    /** An argument with a least and a most: these are taken, and what is beyond is refused. */
    static void bounds(int promise, String what, Class<?> due, int least, Object atLeast, int most, Object atMost,
            Maker maker, NumberedUse call) {
        is(promise, what + " " + least, atLeast, () -> call.on(maker.make(), least));
        is(promise, what + " " + most, atMost, () -> call.on(maker.make(), most));
        int[] beyond = {least - 1, most + 1, Integer.MIN_VALUE, Integer.MAX_VALUE};
        for (int number : beyond) {
            refused(promise, what + " " + number, due, maker, x -> call.on(x, number));
        }
    }

    private static String difference(int probe, Maker maker, Use call) {
        Camslide asked = maker.make();
        Camslide spared = maker.make();
        answerOf(() -> call.on(asked));
        List<Object> got = answers(probe, asked);
        List<Object> due = answers(probe, spared);
        for (int i = 0; i < due.size(); i++) {
            if (!due.get(i).equals(got.get(i))) {
                return "answer " + i + " is " + got.get(i) + " in place of " + due.get(i);
            }
        }
        return "alike";
    }

    private static List<Object> answers(int probe, Camslide x) {
        List<Object> row = new ArrayList<>();
        switch (probe) {
            case 0 -> askLayouts(row, x);
            case 1 -> askBars(row, x, 19, 210);
            case 2 -> askBars(row, x, 211, 401);
            case 3 -> askSettings(row, x);
            default -> askGrowth(row, x);
        }
        // An object answers for 512 calls alone; some hundred of them went before.
        if (row.size() > 400) {
            throw new IllegalStateException("a probe of " + row.size() + " calls is too long");
        }
        return row;
    }

    private static void ask(List<Object> row, Call call) {
        row.add(answerOf(call));
    }

    private static void askLayouts(List<Object> row, Camslide x) {
        for (int i = 0; i < PARTS; i++) {
            int part = i;
            for (int j = 0; j < OPERATIONS; j++) {
                int operation = j;
                ask(row, () -> x.travel(part, operation));
                ask(row, () -> x.time(part, operation));
                ask(row, () -> x.begins(part, operation));
                ask(row, () -> x.advance(part, operation, 8));
                // The last hundredth of most that the makers lay, and the one behind it, tell the return.
                ask(row, () -> x.advance(part, operation, 13));
                ask(row, () -> x.advance(part, operation, 14));
            }
            ask(row, () -> x.collisions(part));
            ask(row, () -> x.collisionAt(part, 0));
            ask(row, () -> x.cycle(part));
            ask(row, () -> x.slowest(part));
            ask(row, () -> x.cycleOfSix(part));
            ask(row, () -> x.chips(part));
            ask(row, () -> x.paysFrom(part));
        }
        ask(row, () -> x.checksum());
        ask(row, () -> x.isSound());
    }

    private static void askBars(List<Object> row, Camslide x, int from, int to) {
        for (int i = from; i <= to; i++) {
            int diameter = i;
            ask(row, () -> x.bars(diameter));
        }
        int[] samples = {1, 2, 3, 5, 8, 13, 999};
        int[] mosts = {0, 1, 2, 5};
        for (int i = 0; i < PARTS; i++) {
            int part = i;
            ask(row, () -> x.piecesOfBar(part));
            ask(row, () -> x.good(part));
            ask(row, () -> x.bad(part));
            for (int sample : samples) {
                for (int most : mosts) {
                    ask(row, () -> x.isAccepted(part, sample, most));
                }
            }
        }
        ask(row, () -> x.goodShare());
    }

    private static void askSettings(List<Object> row, Camslide x) {
        askErrors(row, x);
        ask(row, () -> x.stop(false));
        for (int i = 0; i < POSITIONS; i++) {
            int position = i;
            ask(row, () -> x.setRatio(position, 1));
            ask(row, () -> x.setWear(position, 1));
            ask(row, () -> x.correct(position, 1));
            ask(row, () -> x.correct(position, -4));
        }
        askErrors(row, x);
        for (int i = 0; i < POSITIONS; i++) {
            int position = i;
            // Without an operation that forms its face can't be seen.
            ask(row, () -> x.operation(2, 'f', position, 1, 1, 1000, 0));
            for (int j = 0; j < 8; j++) {
                ask(row, () -> x.grind(position));
            }
        }
        askErrors(row, x);
        for (int i = 0; i < PARTS; i++) {
            int part = i;
            for (int j = 0; j < OPERATIONS; j++) {
                int operation = j;
                ask(row, () -> x.setTolerance(part, operation, 50));
                ask(row, () -> x.station(part, operation, 0));
            }
        }
        askPlan(row, x);
        // Parts without a cycle hide what was ordered of them.
        ask(row, () -> x.lay(1, 0, 80, 9, 0));
        askPlan(row, x);
        for (int i = 0; i <= 12; i++) {
            int cam = i;
            ask(row, () -> x.radius(cam));
        }
        ask(row, () -> x.meanRadius());
        ask(row, () -> x.setLimits(20, 40));
    }

    private static void askPlan(List<Object> row, Camslide x) {
        for (int i = 0; i <= 8; i++) {
            int order = i;
            ask(row, () -> x.machineOf(order));
            ask(row, () -> x.ends(order));
        }
    }

    private static void askErrors(List<Object> row, Camslide x) {
        for (int i = 0; i < POSITIONS; i++) {
            int position = i;
            ask(row, () -> x.error(position));
        }
    }

    private static void askGrowth(List<Object> row, Camslide x) {
        for (int i = 0; i < PARTS; i++) {
            int part = i;
            for (int j = 0; j < OPERATIONS; j++) {
                int operation = j;
                ask(row, () -> x.camRise(part, operation));
                ask(row, () -> x.camFor(part, operation));
            }
        }
        for (int i = 0; i <= 12; i++) {
            int cam = i;
            for (int j = 0; j < 3; j++) {
                int operation = j;
                ask(row, () -> x.cutCam(cam, 0, operation));
            }
        }
        ask(row, () -> x.stop(false));
        // Part 0 first, of which the makers leave a bar begun: a run of another part would make it go.
        for (int i = 0; i < 2 * PARTS; i++) {
            int part = i % PARTS;
            ask(row, () -> x.run(part, 2));
            ask(row, () -> x.bars(60));
            ask(row, () -> x.bars(80));
        }
        askErrors(row, x);
        for (int i = 0; i < PARTS; i++) {
            int part = i;
            ask(row, () -> x.press(part));
            ask(row, () -> x.checksum());
            ask(row, () -> x.balance(part));
            ask(row, () -> x.halve(part, 0));
            ask(row, () -> x.operation(part, 't', 0, 999, 1, 1000, 0));
            ask(row, () -> x.order(part, 1));
            for (int j = 0; j < OPERATIONS; j++) {
                int operation = j;
                // What it answers tells the limit of returns.
                ask(row, () -> x.lay(part, operation, 0, 60, 0));
            }
        }
        ask(row, () -> x.part(60, 100));
        ask(row, () -> x.cam(1000));
        ask(row, () -> x.bring(60, 1, 1000));
    }
}
