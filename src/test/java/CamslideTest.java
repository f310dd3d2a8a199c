/** For each promise of the document: ordinary inputs, the edges that it names, and wrong inputs. */
public final class CamslideTest extends Check {
    public static void main(String[] args) {
        newObject();
        parts();
        operations();
        halves();
        travelsAndTimes();
        limitsAndLaying();
        advances();
        collisions();
        turning();
        pressing();
        begins();
        cycles();
        sixSpindles();
        camsAdded();
        camRises();
        camsServing();
        camsCut();
        barsBrought();
        stops();
        runs();
        beginning();
        wearAndHeat();
        corrections();
        grinding();
        tolerances();
        lots();
        ordersAdded();
        plans();
        plansByCycle();
        chipsOfParts();
        paying();
        checksums();
        figures();
        soundness();
        close();
    }

    private static void newObject() {
        Camslide x = new Camslide();
        is(1, "no part", INDEX, () -> x.chips(0));
        is(1, "no cam", INDEX, () -> x.radius(0));
        is(1, "no order", INDEX, () -> x.ends(0));
        is(1, "no bars", 0, () -> x.bars(60));
        is(1, "cold", 20, () -> x.error(0));
        is(1, "it goes", false, () -> x.stop(false));
    }

    private static void parts() {
        Camslide x = new Camslide();
        is(2, "diameter 19", RANGE, () -> x.part(19, 10));
        is(2, "diameter 401", RANGE, () -> x.part(401, 10));
        is(2, "length 9", RANGE, () -> x.part(20, 9));
        is(2, "length 1000", RANGE, () -> x.part(20, 1000));
        is(2, "first", 0, () -> x.part(20, 10));
        is(2, "second", 1, () -> x.part(400, 999));
        for (int i = 2; i < 5; i++) {
            x.part(60, 100);
        }
        is(2, "sixth", STATE, () -> x.part(60, 100));
        is(2, "range ahead of state", RANGE, () -> x.part(60, 0));
        is(2, "no more", INDEX, () -> x.chips(5));
    }

    private static void operations() {
        Camslide x = new Camslide();
        is(3, "no part", INDEX, () -> x.operation(0, 'x', 0, 1, 1, 100, 0));
        x.part(60, 100);
        is(3, "part -1", INDEX, () -> x.operation(-1, 't', 0, 1, 1, 100, 0));
        is(3, "kind", RANGE, () -> x.operation(0, 'x', 0, 1, 1, 100, 0));
        is(3, "great letter", RANGE, () -> x.operation(0, 'T', 0, 1, 1, 100, 0));
        is(3, "position -1", RANGE, () -> x.operation(0, 't', -1, 1, 1, 100, 0));
        is(3, "position 9", RANGE, () -> x.operation(0, 't', 9, 1, 1, 100, 0));
        is(3, "travel 0", RANGE, () -> x.operation(0, 't', 0, 0, 1, 100, 0));
        is(3, "travel 1000", RANGE, () -> x.operation(0, 't', 0, 1000, 1, 100, 0));
        is(3, "feed 0", RANGE, () -> x.operation(0, 't', 0, 1, 0, 100, 0));
        is(3, "feed 51", RANGE, () -> x.operation(0, 't', 0, 1, 51, 100, 0));
        is(3, "speed 99", RANGE, () -> x.operation(0, 't', 0, 1, 1, 99, 0));
        is(3, "speed 5001", RANGE, () -> x.operation(0, 't', 0, 1, 1, 5001, 0));
        is(3, "rooms -1", RANGE, () -> x.operation(0, 't', 0, 1, 1, 100, -1));
        is(3, "rooms 256", RANGE, () -> x.operation(0, 't', 0, 1, 1, 100, 256));
        String kinds = "tdhkfc";
        for (int i = 0; i < 6; i++) {
            int number = i;
            is(3, "kind " + kinds.charAt(i), i, () -> x.operation(0, kinds.charAt(number), 8, 999, 50, 5000, 255));
        }
        for (int i = 6; i < 10; i++) {
            x.operation(0, 't', 0, 1, 1, 100, 0);
        }
        is(3, "eleventh", STATE, () -> x.operation(0, 't', 0, 1, 1, 100, 0));
        is(3, "range ahead of state", RANGE, () -> x.operation(0, 't', 0, 1, 1, 100, 999));
        is(3, "no more", INDEX, () -> x.travel(0, 10));
    }

    private static void halves() {
        Camslide x = new Camslide();
        is(4, "no part", INDEX, () -> x.halve(0, 0));
        x.part(60, 100);
        is(4, "no operation", INDEX, () -> x.halve(0, 0));
        x.operation(0, 'h', 3, 41, 10, 1000, 4);
        x.setTolerance(0, 0, 77);
        x.station(0, 0, 5);
        x.lay(0, 0, 0, 10, 0);
        is(4, "new one", 1, () -> x.halve(0, 0));
        is(4, "greater half", 21, () -> x.travel(0, 0));
        is(4, "other half", 20, () -> x.travel(0, 1));
        is(4, "not laid", MISSING, () -> x.begins(0, 0));
        is(4, "new one not laid", MISSING, () -> x.begins(0, 1));
        is(4, "kind, feed and speed alike", 18, () -> x.time(0, 1));
        is(4, "tolerance alike", 77, () -> x.setTolerance(0, 1, 77));
        is(4, "station stays", 5, () -> x.station(0, 0, 5));
        is(4, "station of the new one by its number", 1, () -> x.station(0, 1, 1));
        x.operation(0, 't', 8, 40, 10, 1000, 4);
        x.operation(0, 't', 4, 40, 10, 1000, 0);
        x.lay(0, 1, 0, 10, 0);
        x.lay(0, 2, 0, 10, 0);
        is(4, "rooms alike", 11, () -> x.collisions(0));
        x.lay(0, 2, 50, 10, 0);
        x.lay(0, 3, 12, 10, 0);
        is(4, "position alike", 1, () -> x.collisions(0));
        x.operation(0, 't', 4, 1, 10, 1000, 0);
        for (int i = 5; i < 10; i++) {
            x.operation(0, 't', 4, 2, 10, 1000, 0);
        }
        is(4, "travel 1 ahead of state", UNSUPPORTED, () -> x.halve(0, 4));
        is(4, "ten operations", STATE, () -> x.halve(0, 5));
        is(4, "travel stays", 2, () -> x.travel(0, 5));
        Camslide y = Works.withOperations();
        y.operation(0, 't', 0, 2, 10, 1000, 0);
        is(4, "travel 2", 1, () -> y.halve(0, 0));
        is(4, "half of 2", 1, () -> y.travel(0, 0));
        is(4, "other half of 2", 1, () -> y.travel(0, 1));
    }

    private static void travelsAndTimes() {
        Camslide x = new Camslide();
        is(5, "no part", INDEX, () -> x.travel(0, 0));
        is(6, "no part", INDEX, () -> x.time(0, 0));
        x.part(60, 100);
        is(5, "no operation", INDEX, () -> x.travel(0, 0));
        is(6, "no operation", INDEX, () -> x.time(0, 0));
        x.operation(0, 't', 0, 101, 10, 1000, 0);
        x.operation(0, 'h', 0, 101, 10, 1000, 0);
        x.operation(0, 't', 0, 1, 50, 5000, 0);
        x.operation(0, 'h', 0, 999, 1, 100, 0);
        x.operation(0, 'd', 0, 10, 10, 4999, 0);
        is(5, "travel", 101, () -> x.travel(0, 0));
        is(5, "operation -1", INDEX, () -> x.travel(0, -1));
        is(6, "turns rounded up", 66, () -> x.time(0, 0));
        is(6, "threading", 99, () -> x.time(0, 1));
        is(6, "rounded up", 2, () -> x.time(0, 2));
        is(6, "longest", 89910, () -> x.time(0, 3));
        is(6, "6000 by 4999", 2, () -> x.time(0, 4));
        is(6, "operation -1", INDEX, () -> x.time(0, -1));
        is(6, "operation 5", INDEX, () -> x.time(0, 5));
    }

    private static void limitsAndLaying() {
        Camslide x = Works.withOperations(0);
        is(7, "rise 0", RANGE, () -> x.setLimits(0, 1));
        is(7, "rise 100", RANGE, () -> x.setLimits(100, 1));
        is(7, "back 0", RANGE, () -> x.setLimits(1, 0));
        is(7, "back 100", RANGE, () -> x.setLimits(1, 100));
        is(8, "no part", INDEX, () -> x.lay(1, 0, 0, 0, 0));
        is(8, "no operation", INDEX, () -> x.lay(0, 1, 0, 0, 0));
        is(8, "begin -1", RANGE, () -> x.lay(0, 0, -1, 2, 0));
        is(8, "begin 100", RANGE, () -> x.lay(0, 0, 100, 2, 0));
        is(8, "rise 0", RANGE, () -> x.lay(0, 0, 0, 0, 0));
        is(8, "rise 101", RANGE, () -> x.lay(0, 0, 0, 101, 0));
        is(8, "dwell -1", RANGE, () -> x.lay(0, 0, 0, 2, -1));
        is(8, "dwell 100", RANGE, () -> x.lay(0, 0, 0, 2, 100));
        is(8, "begin 99 does not end", UNSUPPORTED, () -> x.lay(0, 0, 99, 2, 0));
        is(8, "too steep", UNSUPPORTED, () -> x.lay(0, 0, 0, 1, 0));
        is(8, "rise 100 does not end", UNSUPPORTED, () -> x.lay(0, 0, 0, 100, 0));
        is(8, "dwell 99 does not end", UNSUPPORTED, () -> x.lay(0, 0, 0, 2, 99));
        is(8, "ends one too late", UNSUPPORTED, () -> x.lay(0, 0, 98, 2, 0));
        is(8, "not laid yet", MISSING, () -> x.begins(0, 0));
        is(8, "ends by 99", 100, () -> x.lay(0, 0, 97, 2, 0));
        is(8, "fails", UNSUPPORTED, () -> x.lay(0, 0, 0, 1, 0));
        is(8, "stays where it was", 97, () -> x.begins(0, 0));
        is(8, "laid anew", 10, () -> x.lay(0, 0, 4, 3, 2));
        is(8, "in place of it", 4, () -> x.begins(0, 0));
        is(7, "20 at first", 20, () -> x.setLimits(40, 39));
        is(7, "what is laid keeps its return", 0, () -> x.advance(0, 0, 9));
        is(7, "a return of two now", 3, () -> x.lay(0, 0, 0, 1, 0));
        is(7, "before", 40, () -> x.setLimits(39, 1));
        is(7, "rises less now", UNSUPPORTED, () -> x.lay(0, 0, 0, 1, 0));
        is(7, "a return of forty", 42, () -> x.lay(0, 0, 0, 2, 0));
        is(7, "range", RANGE, () -> x.setLimits(50, 100));
        is(7, "range changes nothing", 39, () -> x.setLimits(99, 99));
        is(7, "greatest", 99, () -> x.setLimits(1, 1));
        is(7, "least", 1, () -> x.setLimits(20, 40));
        Camslide y = Works.withOperations(0);
        y.operation(0, 't', 6, 41, 10, 1000, 0);
        is(7, "40 back at first", 10, () -> y.lay(0, 0, 0, 9, 0));
        is(7, "41 take two", 11, () -> y.lay(0, 1, 0, 9, 0));
    }

    private static void advances() {
        Camslide x = new Camslide();
        x.part(60, 100);
        is(9, "no part", INDEX, () -> x.advance(1, 0, 200));
        is(9, "no operation", INDEX, () -> x.advance(0, 0, 200));
        x.operation(0, 't', 0, 100, 10, 1000, 0);
        is(9, "hundredth -1", RANGE, () -> x.advance(0, 0, -1));
        is(9, "hundredth 100 ahead of not laid", RANGE, () -> x.advance(0, 0, 100));
        is(9, "not laid", MISSING, () -> x.advance(0, 0, 99));
        x.lay(0, 0, 10, 7, 2);
        int[] due = {0, 14, 28, 42, 57, 71, 85, 100, 100, 100, 67, 34, 0, 0};
        for (int i = 0; i < due.length; i++) {
            int hundredth = 9 + i;
            is(9, "in " + hundredth, due[i], () -> x.advance(0, 0, hundredth));
        }
        is(9, "in 0", 0, () -> x.advance(0, 0, 0));
        is(9, "in 99", 0, () -> x.advance(0, 0, 99));
    }

    private static void collisions() {
        Camslide x = new Camslide();
        is(10, "no part", INDEX, () -> x.collisions(0));
        is(11, "no part", INDEX, () -> x.collisionAt(0, -1));
        x.part(60, 100);
        is(10, "no operations", 0, () -> x.collisions(0));
        x.operation(0, 't', 6, 40, 10, 1000, 5);
        x.operation(0, 't', 7, 40, 10, 1000, 4);
        x.operation(0, 't', 8, 40, 10, 1000, 2);
        x.operation(0, 't', 6, 40, 10, 1000, 8);
        x.operation(0, 't', 7, 40, 10, 1000, 6);
        x.lay(0, 0, 10, 9, 0);
        is(10, "alone", 0, () -> x.collisions(0));
        x.lay(0, 2, 10, 9, 0);
        x.lay(0, 3, 10, 9, 0);
        is(10, "other rooms, one slide", 0, () -> x.collisions(0));
        x.lay(0, 1, 20, 9, 0);
        is(10, "one behind the other", 0, () -> x.collisions(0));
        x.lay(0, 1, 19, 9, 0);
        is(10, "by the last one", 1, () -> x.collisions(0));
        is(11, "by the last one", 19, () -> x.collisionAt(0, 0));
        is(11, "not so many", MISSING, () -> x.collisionAt(0, 1));
        is(11, "index -1", MISSING, () -> x.collisionAt(0, -1));
        x.lay(0, 4, 10, 9, 0);
        is(10, "several at once count once", 11 - 1, () -> x.collisions(0));
        is(11, "lowest", 10, () -> x.collisionAt(0, 0));
        is(11, "greatest", 19, () -> x.collisionAt(0, 9));
        x.lay(0, 4, 80, 9, 0);
        x.lay(0, 1, 85, 9, 0);
        is(10, "elsewhere", 5, () -> x.collisions(0));
        is(11, "elsewhere", 89, () -> x.collisionAt(0, 4));
    }

    private static void turning() {
        Camslide x = Works.withOperations(0, 3, 3, 0);
        x.lay(0, 0, 0, 9, 0);
        x.lay(0, 1, 15, 9, 0);
        is(10, "turned by six hundredths", 1, () -> x.collisions(0));
        is(11, "in which it begins", 15, () -> x.collisionAt(0, 0));
        x.lay(0, 1, 16, 9, 0);
        is(10, "turned in time", 0, () -> x.collisions(0));
        x.lay(0, 2, 26, 9, 0);
        is(10, "no turning at one station", 0, () -> x.collisions(0));
        x.lay(0, 3, 41, 9, 0);
        is(10, "from 3 on to 0 are six", 1, () -> x.collisions(0));
        x.lay(0, 3, 42, 9, 0);
        is(10, "in time again", 0, () -> x.collisions(0));

        Camslide back = Works.withOperations(1, 0);
        back.lay(0, 0, 0, 9, 0);
        back.lay(0, 1, 19, 9, 0);
        is(10, "back by one is on by five", 1, () -> back.collisions(0));
        back.lay(0, 1, 20, 9, 0);
        is(10, "ten behind", 0, () -> back.collisions(0));

        Camslide overlapping = Works.withOperations(0, 5, 1);
        overlapping.lay(0, 0, 0, 30, 0);
        overlapping.lay(0, 1, 5, 2, 0);
        overlapping.lay(0, 2, 31, 9, 0);
        is(10, "the one ahead begins last, not ends last", 3, () -> overlapping.collisions(0));

        Camslide slide = Works.withOperations(0, 6, 5);
        slide.lay(0, 0, 0, 9, 0);
        slide.lay(0, 1, 10, 9, 0);
        slide.lay(0, 2, 20, 9, 0);
        is(10, "slides do not turn", 0, () -> slide.collisions(0));

        Camslide unlaid = Works.withOperations(0, 0, 5);
        unlaid.lay(0, 0, 0, 9, 0);
        unlaid.lay(0, 1, 10, 9, 0);
        unlaid.halve(0, 1);
        unlaid.lay(0, 2, 20, 9, 0);
        is(10, "what is not laid is not ahead", 0, () -> unlaid.collisions(0));

        Camslide atOnce = Works.withOperations(0, 4, 5);
        atOnce.lay(0, 0, 0, 9, 0);
        atOnce.lay(0, 1, 0, 9, 0);
        atOnce.lay(0, 2, 12, 9, 0);
        is(10, "of several ahead the highest number", 10, () -> atOnce.collisions(0));
    }

    private static void pressing() {
        Camslide x = Works.withOperations(0, 6, 2, 8, 6);
        is(12, "no part", INDEX, () -> x.press(1));
        is(12, "nothing laid", 0, () -> x.press(0));
        x.lay(0, 0, 50, 9, 0);
        x.lay(0, 1, 30, 4, 3);
        x.lay(0, 2, 70, 9, 0);
        is(12, "pressed", 24, () -> x.press(0));
        is(12, "first of the turret", 0, () -> x.begins(0, 0));
        is(12, "slide without rooms", 0, () -> x.begins(0, 1));
        is(12, "turned ahead", 14, () -> x.begins(0, 2));
        is(12, "what was not laid", MISSING, () -> x.begins(0, 3));
        is(12, "rise and dwell stay", 40, () -> x.advance(0, 1, 6));
        is(12, "return stays", 0, () -> x.advance(0, 1, 7));

        Camslide rooms = new Camslide();
        rooms.part(60, 100);
        rooms.operation(0, 't', 6, 40, 10, 1000, 1);
        rooms.operation(0, 't', 7, 40, 10, 1000, 2);
        rooms.operation(0, 't', 8, 40, 10, 1000, 3);
        rooms.operation(0, 't', 6, 40, 10, 1000, 2);
        rooms.operation(0, 't', 6, 40, 10, 1000, 2);
        rooms.lay(0, 0, 3, 4, 0);
        rooms.lay(0, 1, 3, 19, 0);
        rooms.lay(0, 2, 2, 9, 0);
        rooms.lay(0, 3, 60, 19, 0);
        rooms.lay(0, 4, 60, 4, 0);
        is(12, "by rooms", 55, () -> rooms.press(0));
        is(12, "begun first", 0, () -> rooms.begins(0, 2));
        is(12, "behind it", 10, () -> rooms.begins(0, 0));
        is(12, "at once", 10, () -> rooms.begins(0, 1));
        is(12, "the lower number first", 30, () -> rooms.begins(0, 3));
        is(12, "the higher one behind", 50, () -> rooms.begins(0, 4));

        Camslide gap = new Camslide();
        gap.part(60, 100);
        gap.operation(0, 't', 6, 40, 10, 1000, 1);
        gap.operation(0, 't', 0, 40, 10, 1000, 0);
        gap.operation(0, 't', 1, 40, 10, 1000, 1);
        gap.operation(0, 't', 7, 40, 10, 1000, 1);
        gap.lay(0, 1, 0, 9, 0);
        gap.lay(0, 0, 1, 4, 0);
        gap.lay(0, 2, 2, 4, 0);
        gap.lay(0, 3, 3, 6, 0);
        is(12, "into the gap", 17, () -> gap.press(0));
        is(12, "gap is used", 5, () -> gap.begins(0, 3));

        Camslide late = Works.withOperations(1, 0);
        late.lay(0, 0, 1, 49, 0);
        late.lay(0, 1, 2, 49, 0);
        is(12, "would not end in time", UNSUPPORTED, () -> late.press(0));
        is(12, "nothing is changed", 1, () -> late.begins(0, 0));
        is(12, "nor there", 2, () -> late.begins(0, 1));
        late.lay(0, 1, 2, 39, 0);
        is(12, "ends by 99", 100, () -> late.press(0));
    }

    private static void begins() {
        Camslide x = Works.withOperations(0);
        is(13, "no part", INDEX, () -> x.begins(1, 0));
        is(13, "no operation", INDEX, () -> x.begins(0, 1));
        is(13, "not laid", MISSING, () -> x.begins(0, 0));
        x.lay(0, 0, 33, 9, 0);
        is(13, "laid", 33, () -> x.begins(0, 0));
    }

    private static void cycles() {
        Camslide x = new Camslide();
        is(14, "no part", INDEX, () -> x.cycle(0));
        is(15, "no part", INDEX, () -> x.slowest(0));
        x.part(60, 100);
        is(14, "no operations", MISSING, () -> x.cycle(0));
        is(15, "no operations", MISSING, () -> x.slowest(0));
        x.operation(0, 't', 6, 40, 10, 1000, 1);
        x.operation(0, 't', 7, 40, 10, 1000, 1);
        x.operation(0, 't', 8, 40, 10, 1000, 0);
        x.lay(0, 0, 0, 9, 0);
        x.lay(0, 1, 10, 7, 0);
        is(14, "not all laid", MISSING, () -> x.cycle(0));
        is(15, "not all laid", MISSING, () -> x.slowest(0));
        x.lay(0, 2, 10, 7, 0);
        is(14, "rounded up", 343, () -> x.cycle(0));
        is(15, "of several the lowest", 1, () -> x.slowest(0));
        x.lay(0, 2, 10, 6, 0);
        is(14, "slowest", 400, () -> x.cycle(0));
        is(15, "slowest", 2, () -> x.slowest(0));
        x.lay(0, 1, 9, 7, 0);
        is(14, "colliding", MISSING, () -> x.cycle(0));
        is(15, "colliding", MISSING, () -> x.slowest(0));
    }

    private static void sixSpindles() {
        Camslide x = new Camslide();
        is(16, "no part", INDEX, () -> x.station(0, 0, 6));
        is(17, "no part", INDEX, () -> x.cycleOfSix(0));
        is(18, "no part", INDEX, () -> x.balance(0));
        x.part(60, 100);
        is(16, "no operation", INDEX, () -> x.station(0, 0, 6));
        is(17, "no operations", MISSING, () -> x.cycleOfSix(0));
        is(18, "no operations", MISSING, () -> x.balance(0));
        int[] travels = {10, 20, 30, 30, 50, 60, 70, 20};
        for (int travel : travels) {
            x.operation(0, 't', 0, travel, 10, 3000, 0);
        }
        is(16, "station -1", RANGE, () -> x.station(0, 0, -1));
        is(16, "station 6", RANGE, () -> x.station(0, 0, 6));
        is(17, "0 and 6 together", 116, () -> x.cycleOfSix(0));
        is(16, "six at 0", 0, () -> x.station(0, 6, 5));
        is(17, "5 and 6 together", 126, () -> x.cycleOfSix(0));
        is(16, "moved", 5, () -> x.station(0, 6, 5));
        is(16, "seven at 1", 1, () -> x.station(0, 7, 1));
        // 70, 60, 50, 30 (2), 30 (3) and 20 (1) each alone, then 20 (7) behind 1, 10 (0) behind 2.
        is(18, "balanced", 114, () -> x.balance(0));
        int[] due = {3, 5, 3, 4, 2, 1, 0, 5};
        for (int i = 0; i < due.length; i++) {
            int number = i;
            is(18, "station of " + i, due[i], () -> x.station(0, number, 0));
        }
        is(17, "all at one", 158, () -> x.cycleOfSix(0));
        is(18, "balanced again", 114, () -> x.balance(0));
        is(17, "not laid, yet asked", 114, () -> x.cycleOfSix(0));
    }

    private static void camsAdded() {
        Camslide x = new Camslide();
        is(19, "radius 999", RANGE, () -> x.cam(999));
        is(19, "radius 10000", RANGE, () -> x.cam(10000));
        is(24, "no cam", INDEX, () -> x.radius(0));
        is(19, "first", 0, () -> x.cam(1000));
        is(19, "second", 1, () -> x.cam(9999));
        is(24, "first", 1000, () -> x.radius(0));
        is(24, "second", 9999, () -> x.radius(1));
        is(24, "cam -1", INDEX, () -> x.radius(-1));
        for (int i = 2; i < 12; i++) {
            x.cam(2000);
        }
        is(19, "thirteenth", STATE, () -> x.cam(2000));
        is(19, "range ahead of state", RANGE, () -> x.cam(0));
        is(24, "cam 12", INDEX, () -> x.radius(12));
    }

    private static void camRises() {
        Camslide x = Works.withOperations(0, 8);
        is(20, "position -1", INDEX, () -> x.setRatio(-1, 9));
        is(20, "position 9", INDEX, () -> x.setRatio(9, 1));
        is(20, "ratio 0", RANGE, () -> x.setRatio(0, 0));
        is(20, "ratio 5", RANGE, () -> x.setRatio(0, 5));
        is(21, "no part", INDEX, () -> x.camRise(1, 0));
        is(21, "no operation", INDEX, () -> x.camRise(0, 2));
        is(21, "not laid", MISSING, () -> x.camRise(0, 0));
        x.lay(0, 0, 0, 9, 0);
        x.lay(0, 1, 0, 9, 0);
        is(21, "ratio 1", 40, () -> x.camRise(0, 0));
        is(20, "1 at first", 1, () -> x.setRatio(8, 3));
        is(20, "before", 3, () -> x.setRatio(8, 3));
        is(21, "rounded up", 14, () -> x.camRise(0, 1));
        is(21, "the other lever", 40, () -> x.camRise(0, 0));
        is(20, "4", 1, () -> x.setRatio(0, 4));
        is(20, "back to 1", 4, () -> x.setRatio(0, 1));
        is(20, "and on", 1, () -> x.setRatio(0, 4));
        is(21, "ratio 4", 10, () -> x.camRise(0, 0));
    }

    private static void camsServing() {
        Camslide x = Works.withOperations(0, 1);
        is(22, "no part", INDEX, () -> x.camFor(1, 0));
        is(22, "no operation", INDEX, () -> x.camFor(0, 2));
        is(22, "not laid", MISSING, () -> x.camFor(0, 0));
        x.lay(0, 0, 0, 9, 1);
        x.lay(0, 1, 20, 9, 1);
        is(22, "no cams", UNSUPPORTED, () -> x.camFor(0, 0));
        x.cam(1200);
        x.cam(1100);
        x.cam(1100);
        x.cam(1300);
        is(22, "least radius, lowest number", 1, () -> x.camFor(0, 0));
        x.cutCam(3, 0, 0);
        is(22, "its shape", 3, () -> x.camFor(0, 0));
        x.cutCam(0, 0, 0);
        is(22, "its shape, lowest number", 0, () -> x.camFor(0, 0));
        is(22, "the other shape", 1, () -> x.camFor(0, 1));
        x.lay(0, 0, 1, 9, 1);
        is(22, "another begin", 1, () -> x.camFor(0, 0));
        x.lay(0, 0, 0, 10, 1);
        is(22, "another rise", 1, () -> x.camFor(0, 0));
        x.lay(0, 0, 0, 9, 2);
        is(22, "another dwell", 1, () -> x.camFor(0, 0));
        x.setLimits(20, 10);
        x.lay(0, 0, 0, 9, 1);
        is(22, "another return is no other shape", 0, () -> x.camFor(0, 0));
        x.setRatio(0, 2);
        is(22, "another rise of the cam", 1, () -> x.camFor(0, 0));

        Camslide thin = new Camslide();
        thin.part(60, 100);
        thin.operation(0, 't', 0, 151, 10, 1000, 0);
        thin.lay(0, 0, 0, 9, 0);
        thin.cam(1000);
        is(22, "too thin by one", UNSUPPORTED, () -> thin.camFor(0, 0));
        thin.cam(1001);
        is(22, "just thick", 1, () -> thin.camFor(0, 0));
    }

    private static void camsCut() {
        Camslide x = new Camslide();
        is(23, "no cam", INDEX, () -> x.cutCam(0, 0, 0));
        x.cam(1001);
        is(23, "no part", INDEX, () -> x.cutCam(0, 0, 0));
        x.part(60, 100);
        is(23, "no operation", INDEX, () -> x.cutCam(0, 0, 0));
        x.operation(0, 't', 0, 151, 10, 1000, 0);
        is(23, "not laid", MISSING, () -> x.cutCam(0, 0, 0));
        is(23, "cam ahead of not laid", INDEX, () -> x.cutCam(1, 0, 0));
        x.lay(0, 0, 0, 9, 0);
        x.cam(1000);
        is(23, "too thin", UNSUPPORTED, () -> x.cutCam(1, 0, 0));
        is(23, "uncut", 1000, () -> x.radius(1));
        is(23, "cut to 800", 800, () -> x.cutCam(0, 0, 0));
        is(23, "cut already", 800, () -> x.cutCam(0, 0, 0));
        is(24, "radius then", 800, () -> x.radius(0));
        x.lay(0, 0, 2, 9, 0);
        is(23, "another shape", UNSUPPORTED, () -> x.cutCam(0, 0, 0));
        x.lay(0, 0, 0, 9, 0);
        is(23, "its own again", 800, () -> x.cutCam(0, 0, 0));
        x.cam(2000);
        x.setRatio(0, 4);
        is(23, "by the ratio", 1912, () -> x.cutCam(2, 0, 0));
    }

    private static void barsBrought() {
        Camslide x = Works.formed();
        is(25, "diameter 19", RANGE, () -> x.bring(19, 1, 1000));
        is(25, "diameter 401", RANGE, () -> x.bring(401, 1, 1000));
        is(25, "bars 0", RANGE, () -> x.bring(20, 0, 1000));
        is(25, "bars 100", RANGE, () -> x.bring(20, 100, 1000));
        is(25, "length 999", RANGE, () -> x.bring(20, 1, 999));
        is(25, "length 40001", RANGE, () -> x.bring(20, 1, 40001));
        is(26, "no part", INDEX, () -> x.piecesOfBar(1));
        is(26, "none brought", MISSING, () -> x.piecesOfBar(0));
        is(25, "brought", 2, () -> x.bring(60, 2, 2600));
        is(26, "of 2600", 5, () -> x.piecesOfBar(0));
        is(25, "shorter ones", 3, () -> x.bring(60, 1, 2599));
        is(26, "of 2599", 4, () -> x.piecesOfBar(0));
        is(27, "three", 3, () -> x.bars(60));
        is(27, "none", 0, () -> x.bars(61));
        is(27, "no such diameter", 0, () -> x.bars(-1));
        is(27, "least", 0, () -> x.bars(Integer.MIN_VALUE));
        is(27, "greatest", 0, () -> x.bars(Integer.MAX_VALUE));
        is(27, "401", 0, () -> x.bars(401));
        x.bring(400, 99, 40000);
        is(27, "400", 99, () -> x.bars(400));
        for (int i = 0; i < 9; i++) {
            x.bring(400, 99, 40000);
        }
        is(25, "would be 1000", UNSUPPORTED, () -> x.bring(400, 10, 1000));
        is(25, "999", 999, () -> x.bring(400, 9, 1000));
        x.part(400, 999);
        is(26, "no piece", 0, () -> x.piecesOfBar(1));
        is(25, "range ahead of too many", RANGE, () -> x.bring(400, 1, 0));
        is(25, "too many tells no length", UNSUPPORTED, () -> x.bring(400, 1, 40000));
        is(26, "still no piece", 0, () -> x.piecesOfBar(1));
        x.run(0, 999);
        is(27, "used up", 0, () -> x.bars(60));
        is(26, "used up, yet brought", 4, () -> x.piecesOfBar(0));
    }

    private static void stops() {
        Camslide x = Works.formed();
        x.bring(60, 99, 40000);
        is(28, "goes at first", false, () -> x.stop(true));
        is(28, "stopped", true, () -> x.stop(true));
        is(29, "stopped", STATE, () -> x.run(0, 1));
        is(28, "goes on", true, () -> x.stop(false));
        is(28, "goes", false, () -> x.stop(false));
        x.run(0, 100);
        is(28, "warm", 0, () -> x.error(7));
        x.stop(false);
        is(28, "no stop, still warm", 0, () -> x.error(7));
        x.stop(true);
        is(28, "cold behind a stop", 20, () -> x.error(7));
        x.stop(false);
        x.run(0, 4);
        is(28, "still cold", 20, () -> x.error(7));
        x.run(0, 1);
        is(28, "warms anew", 19, () -> x.error(7));
    }

    private static void runs() {
        Camslide x = Works.formed();
        x.part(80, 100);
        is(29, "no part", INDEX, () -> x.run(2, 0));
        is(29, "pieces 0", RANGE, () -> x.run(0, 0));
        is(29, "pieces 1000", RANGE, () -> x.run(1, 1000));
        is(29, "no cycle", UNSUPPORTED, () -> x.run(1, 1));
        x.stop(true);
        is(29, "range ahead of stopped", RANGE, () -> x.run(0, 0));
        is(29, "stopped ahead of no cycle", STATE, () -> x.run(1, 1));
        x.stop(false);
        is(29, "no bars", 0, () -> x.run(0, 9));
        is(29, "no pieces", MISSING, () -> x.isAccepted(0, 1, 0));
        x.bring(60, 2, 2600);
        is(29, "of one bar", 5, () -> x.run(0, 5));
        is(27, "one left", 1, () -> x.bars(60));
        is(29, "of the other", 1, () -> x.run(0, 1));
        is(27, "begun aside", 0, () -> x.bars(60));
        is(29, "until used up", 4, () -> x.run(0, 999));
        is(29, "used up", 0, () -> x.run(0, 999));
        is(35, "good", 10, () -> x.good(0));
        x.bring(60, 9, 1000);
        is(29, "bars of one piece", 1, () -> x.run(0, 1));
        is(27, "eight", 8, () -> x.bars(60));
        x.part(60, 999);
        x.operation(2, 't', 6, 10, 10, 1000, 0);
        x.lay(2, 0, 0, 1, 0);
        is(29, "bars that give none", 0, () -> x.run(2, 5));
        is(27, "are not begun", 8, () -> x.bars(60));
    }

    private static void beginning() {
        Camslide x = Works.formed();
        x.part(60, 380);
        x.part(80, 100);
        for (int i = 1; i < 3; i++) {
            x.operation(i, 't', 7, 10, 10, 1000, 0);
        }
        x.bring(60, 9, 2600);
        x.run(0, 2);
        x.bring(60, 1, 40000);
        is(29, "the begun one gives what was left", 3, () -> x.run(0, 3));
        is(27, "nine left", 9, () -> x.bars(60));
        x.run(0, 1);
        is(27, "begun", 8, () -> x.bars(60));
        is(29, "fails", UNSUPPORTED, () -> x.run(1, 1));
        x.run(0, 1);
        is(27, "a run that fails leaves it", 8, () -> x.bars(60));
        x.lay(1, 0, 0, 1, 0);
        x.lay(2, 0, 0, 1, 0);
        is(29, "another part", 1, () -> x.run(1, 1));
        is(27, "takes another", 7, () -> x.bars(60));
        x.run(0, 1);
        is(27, "and it was gone", 6, () -> x.bars(60));
        is(29, "makes nothing", 0, () -> x.run(2, 1));
        x.run(0, 1);
        is(27, "yet it was gone", 5, () -> x.bars(60));
    }

    private static void wearAndHeat() {
        Camslide x = Works.formed();
        x.operation(0, 't', 6, 10, 10, 1000, 0);
        x.lay(0, 1, 50, 1, 0);
        x.bring(60, 99, 40000);
        is(30, "position 9", INDEX, () -> x.setWear(9, 99));
        is(30, "position -1", INDEX, () -> x.setWear(-1, 0));
        is(30, "wear -1", RANGE, () -> x.setWear(0, -1));
        is(30, "wear 21", RANGE, () -> x.setWear(0, 21));
        is(32, "position 9", INDEX, () -> x.error(9));
        is(32, "position -1", INDEX, () -> x.error(-1));
        is(32, "cold", 20, () -> x.error(6));
        x.run(0, 4);
        is(32, "wears once for each piece", 24, () -> x.error(6));
        x.run(0, 1);
        is(32, "a fifth warmer", 24, () -> x.error(6));
        is(32, "other positions do not wear", 19, () -> x.error(5));
        is(30, "1 at first", 1, () -> x.setWear(6, 20));
        is(30, "before", 20, () -> x.setWear(6, 20));
        is(32, "not for pieces made", 24, () -> x.error(6));
        x.run(0, 95);
        is(32, "worn, warm", 1905, () -> x.error(6));
        is(32, "warm", 0, () -> x.error(5));
        x.run(0, 50);
        is(32, "no warmer", 0, () -> x.error(5));
        x.setWear(6, 0);
        x.run(0, 10);
        is(32, "without wear", 2905, () -> x.error(6));
    }

    private static void corrections() {
        Camslide x = new Camslide();
        is(31, "position 9", INDEX, () -> x.correct(9, 999));
        is(31, "position -1", INDEX, () -> x.correct(-1, 0));
        is(31, "steps 201", RANGE, () -> x.correct(0, 201));
        is(31, "steps -201", RANGE, () -> x.correct(0, -201));
        is(31, "the first lose none", 200, () -> x.correct(0, -200));
        is(32, "corrected", 220, () -> x.error(0));
        is(31, "the same way", 5, () -> x.correct(0, -5));
        is(31, "the other way", 7, () -> x.correct(0, 10));
        is(32, "corrected back", 218, () -> x.error(0));
        is(31, "none", 0, () -> x.correct(0, 0));
        is(31, "none turn no way", 1, () -> x.correct(0, 1));
        is(31, "three are lost", 0, () -> x.correct(0, -3));
        is(31, "yet turned the way", 1, () -> x.correct(0, -1));
        is(31, "two are lost", 0, () -> x.correct(0, 2));
        is(31, "and turned it back", 1, () -> x.correct(0, -4));
        is(31, "each position has its way", 9, () -> x.correct(1, 9));
        is(32, "both", 219, () -> x.error(0));
        is(32, "more steps, less error", 11, () -> x.error(1));
    }

    private static void grinding() {
        Camslide x = Works.formed();
        x.operation(0, 't', 7, 10, 10, 1000, 0);
        x.lay(0, 1, 0, 1, 0);
        is(33, "position 9", INDEX, () -> x.grind(9));
        is(33, "position -1", INDEX, () -> x.grind(-1));
        is(33, "none forms", UNSUPPORTED, () -> x.grind(7));
        x.bring(60, 9, 2600);
        x.run(0, 10);
        x.correct(6, 4);
        is(33, "ground", 900, () -> x.grind(6));
        is(33, "without wear", 14, () -> x.error(6));
        is(33, "the other keeps its wear", 28, () -> x.error(7));
        for (int face = 800; face >= 300; face -= 100) {
            int due = face;
            is(33, "to " + face, due, () -> x.grind(6));
        }
        x.run(0, 1);
        is(33, "too short", UNSUPPORTED, () -> x.grind(6));
        is(33, "keeps its wear", 15, () -> x.error(6));
        x.part(60, 100);
        x.operation(1, 'f', 7, 1, 10, 1000, 0);
        is(33, "formed by another part", 900, () -> x.grind(7));
    }

    private static void tolerances() {
        Camslide x = Works.formed();
        is(34, "no part", INDEX, () -> x.setTolerance(1, 0, 0));
        is(34, "no operation", INDEX, () -> x.setTolerance(0, 1, 0));
        is(34, "tolerance 0", RANGE, () -> x.setTolerance(0, 0, 0));
        is(34, "tolerance 501", RANGE, () -> x.setTolerance(0, 0, 501));
        is(34, "50 at first", 50, () -> x.setTolerance(0, 0, 22));
        is(34, "before", 22, () -> x.setTolerance(0, 0, 22));
        is(35, "no part", INDEX, () -> x.good(1));
        is(36, "no part", INDEX, () -> x.bad(1));
        x.bring(60, 99, 40000);
        // Errors 21, 22, 23, 24 and, by the fifth piece warmer, 24.
        x.run(0, 5);
        is(35, "at most its tolerance", 2, () -> x.good(0));
        is(36, "more", 3, () -> x.bad(0));
        x.correct(6, 47);
        // Errors -22, -21.
        x.run(0, 2);
        is(35, "both ways", 4, () -> x.good(0));
        x.correct(6, 3);
        // Errors -23, -22.
        x.run(0, 2);
        is(35, "one more", 5, () -> x.good(0));
        is(36, "one less", 4, () -> x.bad(0));
        x.operation(0, 't', 7, 10, 10, 1000, 0);
        x.lay(0, 1, 50, 1, 0);
        x.setTolerance(0, 1, 1);
        x.run(0, 1);
        is(36, "each operation", 5, () -> x.bad(0));
    }

    private static void lots() {
        Camslide x = Works.formed();
        is(37, "no part", INDEX, () -> x.isAccepted(1, 0, 0));
        is(37, "sample 0", RANGE, () -> x.isAccepted(0, 0, 0));
        is(37, "sample 1000", RANGE, () -> x.isAccepted(0, 1000, 0));
        is(37, "most -1", RANGE, () -> x.isAccepted(0, 1, -1));
        is(37, "most 1000", RANGE, () -> x.isAccepted(0, 1, 1000));
        is(37, "no pieces", MISSING, () -> x.isAccepted(0, 999, 999));
        x.setTolerance(0, 0, 22);
        x.bring(60, 1, 2600);
        x.run(0, 5);
        is(37, "first two", true, () -> x.isAccepted(0, 2, 0));
        is(37, "first three", false, () -> x.isAccepted(0, 3, 0));
        is(37, "one may be bad", true, () -> x.isAccepted(0, 3, 1));
        is(37, "all", true, () -> x.isAccepted(0, 999, 3));
        is(37, "all, fewer", false, () -> x.isAccepted(0, 999, 2));
        x.run(0, 5);
        is(37, "a run of none is no lot", true, () -> x.isAccepted(0, 2, 0));
        x.bring(60, 1, 2600);
        x.run(0, 1);
        is(37, "the last lot", false, () -> x.isAccepted(0, 2, 0));
        is(37, "has one piece", true, () -> x.isAccepted(0, 999, 1));
        x.part(60, 100);
        is(37, "each part", MISSING, () -> x.isAccepted(1, 1, 0));
    }

    private static void ordersAdded() {
        Camslide x = new Camslide();
        is(38, "no part", INDEX, () -> x.order(0, 0));
        x.part(60, 100);
        is(38, "pieces 0", RANGE, () -> x.order(0, 0));
        is(38, "pieces 10000", RANGE, () -> x.order(0, 10000));
        is(38, "part -1", INDEX, () -> x.order(-1, 1));
        for (int i = 0; i < 8; i++) {
            int due = i;
            is(38, "order " + i, due, () -> x.order(0, 9999));
        }
        is(38, "ninth", STATE, () -> x.order(0, 1));
        is(38, "range ahead of state", RANGE, () -> x.order(0, 0));
        is(39, "no such order", INDEX, () -> x.machineOf(8));
        is(39, "order -1", INDEX, () -> x.machineOf(-1));
        is(39, "no cycle", MISSING, () -> x.machineOf(0));
        is(40, "no such order", INDEX, () -> x.ends(8));
        is(40, "order -1", INDEX, () -> x.ends(-1));
        is(40, "no cycle", MISSING, () -> x.ends(7));
    }

    private static void plans() {
        Camslide x = Works.planned();
        x.order(0, 1000);
        x.order(1, 10);
        x.order(1, 800);
        x.order(2, 10);
        x.order(0, 1);
        // 0: set by 1800 on machine 0, ends 4800. 1: on 1 set from 1800 on by 1800, ends 3630.
        is(39, "first", 0, () -> x.machineOf(0));
        is(40, "first", 4800L, () -> x.ends(0));
        is(39, "waits for the setter", 1, () -> x.machineOf(1));
        is(40, "waits for the setter", 3630L, () -> x.ends(1));
        // 2: of the same part on 1, with no setting, ends 6030.
        is(39, "same part", 1, () -> x.machineOf(2));
        is(40, "same part", 6030L, () -> x.ends(2));
        // 3: on 2 set from 3600 on by 1800, ends 5430.
        is(39, "third machine", 2, () -> x.machineOf(3));
        is(40, "third machine", 5430L, () -> x.ends(3));
        // 4: on 0 without the setter, who works until 5400.
        is(39, "without waiting", 0, () -> x.machineOf(4));
        is(40, "without waiting", 4803L, () -> x.ends(4));
        x.order(1, 1000);
        // 5: on 0 set from 5400 on by 600, ends 9000; on 1 from 6030 on, ends 9030.
        is(39, "same diameter", 0, () -> x.machineOf(5));
        is(40, "same diameter", 9000L, () -> x.ends(5));
        x.order(0, 10);
        // 6: on 2, free at 5430, set from 6000 on by 1800, ends 7830; on 1 from 6030 on by 600, ends 6660.
        is(39, "the setting tells", 1, () -> x.machineOf(6));
        is(40, "the setting tells", 6660L, () -> x.ends(6));
        x.order(2, 700);
        is(39, "back to the other diameter", 2, () -> x.machineOf(7));
        is(40, "back to the other diameter", 7530L, () -> x.ends(7));
        x.halve(2, 0);
        is(39, "one ahead has no cycle", MISSING, () -> x.machineOf(4));
        is(40, "one ahead has no cycle", MISSING, () -> x.ends(4));
        is(40, "behind it does not count", 6030L, () -> x.ends(2));
        is(39, "behind it does not count", 1, () -> x.machineOf(2));
    }

    private static void plansByCycle() {
        Camslide x = Works.withOperations(6);
        x.lay(0, 0, 0, 7, 0);
        x.order(0, 1);
        is(40, "rounded up", 1804L, () -> x.ends(0));
        x.lay(0, 0, 0, 24, 0);
        is(40, "by the cycle now", 1801L, () -> x.ends(0));
        Camslide slow = new Camslide();
        slow.part(60, 100);
        slow.operation(0, 'h', 6, 99, 1, 100, 0);
        slow.setLimits(99, 99);
        slow.lay(0, 0, 0, 1, 0);
        slow.order(0, 9999);
        is(40, "very long", 1800L + 9999L * 8910, () -> slow.ends(0));
        Camslide equal = Works.planned();
        equal.order(0, 600);
        equal.order(1, 9);
        equal.order(2, 9);
        // 1: on 0 set from 3600 on by 600, ends 4227; on 1 set from 1800 on by 1800, ends 3627.
        is(39, "ends first", 1, () -> equal.machineOf(1));
        // 2: on 0 and 2 set from 3600 on by 1800, ends 5427.
        is(39, "lowest of several", 0, () -> equal.machineOf(2));
        is(40, "lowest of several", 5427L, () -> equal.ends(2));
    }

    private static void chipsOfParts() {
        Camslide x = new Camslide();
        is(41, "no part", INDEX, () -> x.chips(0));
        x.part(61, 100);
        is(41, "cutting off alone", 744L, () -> x.chips(0));
        x.operation(0, 't', 0, 40, 10, 1000, 0);
        x.operation(0, 't', 0, 9, 10, 1000, 0);
        // 61 * 61 * 20 + 49 * 61 = 77409
        is(41, "with operations", 774L, () -> x.chips(0));
        x.part(400, 10);
        for (int i = 0; i < 10; i++) {
            x.operation(1, 't', 0, 999, 10, 1000, 0);
        }
        is(41, "most", 71960L, () -> x.chips(1));
    }

    private static void paying() {
        Camslide x = Works.withOperations();
        is(42, "no part", INDEX, () -> x.paysFrom(1));
        is(42, "no cycle", MISSING, () -> x.paysFrom(0));
        x.operation(0, 't', 6, 100, 10, 1000, 0);
        x.lay(0, 0, 0, 20, 0);
        is(42, "cycle 300", 3400, () -> x.paysFrom(0));
        x.lay(0, 0, 0, 7, 0);
        // 1020000 / 858 = 1188.8
        is(42, "cycle 858", 1189, () -> x.paysFrom(0));
    }

    private static void checksums() {
        Camslide x = new Camslide();
        is(43, "none", 0L, () -> x.checksum());
        x.part(60, 100);
        x.part(60, 100);
        is(43, "no operations", 0L, () -> x.checksum());
        x.operation(1, 't', 0, 40, 10, 1000, 0);
        is(43, "not laid", 33L, () -> x.checksum());
        x.operation(0, 't', 0, 10, 10, 1000, 0);
        x.lay(0, 0, 5, 9, 0);
        is(43, "of each part", 45L * 31 + 33, () -> x.checksum());
        long due = 45;
        for (int i = 1; i < 10; i++) {
            x.operation(0, 't', 0, 999, 10, 1000, 0);
            due = due * 31 + 992;
        }
        for (int i = 0; i < 9; i++) {
            x.operation(1, 't', 0, 999, 10, 1000, 0);
        }
        due = due * 31 + 33;
        for (int i = 0; i < 9; i++) {
            due = due * 31 + 992;
        }
        long wrapped = due;
        is(43, "wraps around", wrapped, () -> x.checksum());
    }

    private static void figures() {
        Camslide x = Works.formed();
        is(44, "none", ARITHMETIC, () -> x.goodShare());
        is(45, "none", ARITHMETIC, () -> x.meanRadius());
        x.bring(60, 9, 2600);
        x.setTolerance(0, 0, 22);
        x.run(0, 3);
        is(44, "two thirds", 2f / 3f, () -> x.goodShare());
        x.part(60, 100);
        x.operation(1, 't', 8, 1, 10, 1000, 0);
        x.lay(1, 0, 0, 1, 0);
        x.run(1, 4);
        is(44, "of all parts", 6f / 7f, () -> x.goodShare());
        x.cam(1000);
        is(45, "one", 1000.0, () -> x.meanRadius());
        x.cam(1001);
        x.cam(1003);
        is(45, "three", 3004.0 / 3.0, () -> x.meanRadius());
    }

    private static void soundness() {
        Camslide x = new Camslide();
        is(46, "new", true, () -> x.isSound());
        Camslide y = Works.formed();
        y.lay(0, 0, 87, 10, 0);
        y.cam(1000);
        y.cutCam(0, 0, 0);
        for (int i = 0; i < 7; i++) {
            y.grind(6);
        }
        is(46, "at the limits", true, () -> y.isSound());
    }
}
