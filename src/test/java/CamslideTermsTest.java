/** The sentences of the document's terms, each on both sides of the bound that it names. */
public final class CamslideTermsTest extends Check {
    public static void main(String[] args) {
        turns();
        speeds();
        threading();
        halfCuts();
        returns();
        steepness();
        endOfTheTurn();
        limitsForWhatIsLaid();
        advanceOfTheRise();
        advanceOfTheReturn();
        layingAnew();
        rooms();
        sharedHundredths();
        turretTogether();
        turretTurns();
        oneAheadOnTheTurret();
        pressingOrder();
        pressingSlides();
        pressingTheTurret();
        pressingToTheEnd();
        cyclesRounded();
        cyclesByCollisions();
        stationsByNumbers();
        sumsAtStations();
        balancing();
        camRises();
        camsToServe();
        camShapes();
        camsCutThin();
        piecesOfBars();
        barsUsedUp();
        barBegun();
        barGone();
        heat();
        stops();
        wear();
        corrections();
        faces();
        tolerances();
        lots();
        settersTimes();
        settersWays();
        endsRounded();
        chipsRounded();
        paying();
        checksums();
        shares();
        soundness();
        lastCall();
        close();
    }

    private static Object time(char kind, int travel, int feed, int speed) {
        Camslide x = new Camslide();
        x.part(60, 100);
        x.operation(0, kind, 0, travel, feed, speed, 0);
        return x.time(0, 0);
    }

    private static void turns() {
        is(6, "10 by 10 is one turn", 6, () -> time('t', 10, 10, 1000));
        is(6, "11 by 10 are two", 12, () -> time('t', 11, 10, 1000));
        is(6, "20 by 10 are two", 12, () -> time('t', 20, 10, 1000));
        is(6, "1 by 50 is one", 6, () -> time('t', 1, 50, 1000));
        is(6, "50 by 50 is one", 6, () -> time('t', 50, 50, 1000));
        is(6, "51 by 50 are two", 12, () -> time('t', 51, 50, 1000));
        is(6, "999 by 1", 5994, () -> time('t', 999, 1, 1000));
    }

    private static void speeds() {
        is(6, "6000 by 3000", 2, () -> time('t', 1, 1, 3000));
        is(6, "6000 by 3001", 2, () -> time('t', 1, 1, 3001));
        is(6, "6000 by 2999", 3, () -> time('t', 1, 1, 2999));
        is(6, "6000 by 5000", 2, () -> time('t', 1, 1, 5000));
        is(6, "6000 by 100", 60, () -> time('t', 1, 1, 100));
        is(6, "turns are rounded ahead of times", 4, () -> time('t', 11, 10, 3000));
    }

    private static void threading() {
        is(6, "9000 by 3000", 3, () -> time('h', 1, 1, 3000));
        is(6, "9000 by 3001", 3, () -> time('h', 1, 1, 3001));
        is(6, "9000 by 2999", 4, () -> time('h', 1, 1, 2999));
        is(6, "9000 times 999 by 100", 89910, () -> time('h', 999, 1, 100));
        is(6, "6000 times 999 by 100", 59940, () -> time('t', 999, 1, 100));
        is(6, "11 by 10 are two turns in threading", 6, () -> time('h', 11, 10, 3000));
        for (char kind : "tdkfc".toCharArray()) {
            is(6, "does not go back: " + kind, 2, () -> time(kind, 1, 1, 3000));
        }
    }

    private static void halfCuts() {
        int[][] halves = {{2, 1, 1}, {3, 2, 1}, {4, 2, 2}, {999, 500, 499}};
        for (int[] half : halves) {
            Camslide x = Works.single('t', 0, half[0], 60);
            is(4, "the new one of " + half[0], 1, () -> x.halve(0, 0));
            is(4, "keeps the greater half of " + half[0], half[1], () -> x.travel(0, 0));
            is(4, "the other half of " + half[0], half[2], () -> x.travel(0, 1));
            is(4, "is not laid any more", MISSING, () -> x.begins(0, 0));
            is(4, "an operation made by a half cut is not laid", MISSING, () -> x.begins(0, 1));
        }
        Camslide x = Works.withOperations(0, 1, 2, 3, 4, 5);
        x.setTolerance(0, 3, 500);
        x.station(0, 3, 1);
        x.lay(0, 4, 0, 9, 0);
        is(4, "the seventh", 6, () -> x.halve(0, 3));
        is(4, "not its station, but that of its number", 0, () -> x.station(0, 6, 4));
        is(4, "the station of the old one stays", 1, () -> x.station(0, 3, 1));
        is(4, "its tolerance", 500, () -> x.setTolerance(0, 6, 1));
        is(4, "a tolerance for itself", 500, () -> x.setTolerance(0, 3, 2));
        is(4, "others stay laid", 0, () -> x.begins(0, 4));
        is(4, "what is not laid is halved, too", 7, () -> x.halve(0, 3));
        is(4, "a half is halved", 8, () -> x.halve(0, 6));
    }

    private static Object end(int rises, int returns, int travel, int begin, int rise, int dwell) {
        Camslide x = Works.withOperations();
        x.operation(0, 't', 0, travel, 1, 1000, 0);
        x.setLimits(rises, returns);
        return x.lay(0, 0, begin, rise, dwell);
    }

    private static void returns() {
        is(8, "40 by 40 is one hundredth", 51, () -> end(20, 40, 40, 0, 50, 0));
        is(8, "41 by 40 are two", 52, () -> end(20, 40, 41, 0, 50, 0));
        is(8, "80 by 40 are two", 52, () -> end(20, 40, 80, 0, 50, 0));
        is(8, "81 by 40 are three", 53, () -> end(20, 40, 81, 0, 50, 0));
        is(8, "1 by 40 is one", 51, () -> end(20, 40, 1, 0, 50, 0));
        is(8, "999 by 40 are 25", 75, () -> end(20, 40, 999, 0, 50, 0));
        is(8, "99 by 99 is one", 51, () -> end(20, 99, 99, 0, 50, 0));
        is(8, "100 by 99 are two", 52, () -> end(20, 99, 100, 0, 50, 0));
        is(8, "50 by 1 are fifty", 100, () -> end(20, 1, 50, 0, 50, 0));
        is(8, "51 by 1 end too late", UNSUPPORTED, () -> end(20, 1, 51, 0, 50, 0));
    }

    private static void steepness() {
        is(8, "40 in 2 by 20", 3, () -> end(20, 40, 40, 0, 2, 0));
        is(8, "41 in 2 by 20", UNSUPPORTED, () -> end(20, 40, 41, 0, 2, 0));
        is(8, "41 in 3 by 20", 5, () -> end(20, 40, 41, 0, 3, 0));
        is(8, "1 in 1 by 1", 2, () -> end(1, 40, 1, 0, 1, 0));
        is(8, "2 in 1 by 1", UNSUPPORTED, () -> end(1, 40, 2, 0, 1, 0));
        is(8, "99 in 1 by 99", 4, () -> end(99, 40, 99, 0, 1, 0));
        is(8, "100 in 1 by 99", UNSUPPORTED, () -> end(99, 40, 100, 0, 1, 0));
        is(8, "999 in 50 by 20", 75, () -> end(20, 40, 999, 0, 50, 0));
        is(8, "999 in 49 by 20", UNSUPPORTED, () -> end(20, 40, 999, 0, 49, 0));
        is(7, "20 at first", 3, () -> Works.single('t', 0, 40, 2).lay(0, 0, 0, 2, 0));
        is(7, "not more at first", UNSUPPORTED, () -> Works.single('t', 0, 41, 3).lay(0, 0, 0, 2, 0));
        is(7, "40 back at first", 51, () -> Works.single('t', 0, 40, 2).lay(0, 0, 0, 50, 0));
        is(7, "not more back at first", 52, () -> Works.single('t', 0, 41, 3).lay(0, 0, 0, 50, 0));
    }

    private static void endOfTheTurn() {
        is(8, "begin 98 ends in 99", 100, () -> end(20, 40, 1, 98, 1, 0));
        is(8, "begin 99 does not", UNSUPPORTED, () -> end(20, 40, 1, 99, 1, 0));
        is(8, "rise 99 ends in 99", 100, () -> end(20, 40, 1, 0, 99, 0));
        is(8, "rise 100 does not", UNSUPPORTED, () -> end(20, 40, 1, 0, 100, 0));
        is(8, "dwell 98 ends in 99", 100, () -> end(20, 40, 1, 0, 1, 98));
        is(8, "dwell 99 does not", UNSUPPORTED, () -> end(20, 40, 1, 0, 1, 99));
        is(8, "all together end in 99", 100, () -> end(20, 40, 41, 30, 40, 28));
        is(8, "all together do not", UNSUPPORTED, () -> end(20, 40, 41, 30, 40, 29));
        is(8, "by the return they do not", UNSUPPORTED, () -> end(20, 40, 81, 30, 40, 28));
        is(8, "the least ends behind two", 2, () -> end(20, 40, 1, 0, 1, 0));
    }

    private static void limitsForWhatIsLaid() {
        Camslide x = Works.single('t', 6, 80, 4);
        x.operation(0, 't', 7, 80, 10, 1000, 1);
        x.lay(0, 1, 40, 4, 0);
        x.setLimits(1, 99);
        is(7, "what was laid keeps its rise and return", 40, () -> x.advance(0, 0, 4));
        is(7, "and its return ends as before", 0, () -> x.advance(0, 0, 5));
        is(7, "pressed, it keeps its return, too", 12, () -> x.press(0));
        is(7, "and is where it was told", 6, () -> x.begins(0, 1));
        is(7, "from now on it is too steep", UNSUPPORTED, () -> x.lay(0, 0, 0, 79, 0));
        is(7, "from now on it has the new return", 81, () -> x.lay(0, 0, 0, 80, 0));
        is(7, "halves have it, too", 1, () -> x.halve(0, 0) - 1);
        is(7, "a return of one", 41, () -> x.lay(0, 0, 0, 40, 0));
    }

    private static void advances(int promise, Camslide x, int from, int... due) {
        for (int i = 0; i < due.length; i++) {
            int hundredth = from + i;
            is(promise, "advance in " + hundredth, due[i], () -> x.advance(0, 0, hundredth));
        }
    }

    private static void advanceOfTheRise() {
        Camslide x = Works.single('t', 0, 10, 3);
        x.lay(0, 0, 5, 3, 2);
        advances(9, x, 3, 0, 0, 3, 6, 10, 10, 10, 0, 0);
        Camslide slow = Works.single('t', 0, 2, 50);
        slow.lay(0, 0, 0, 5, 0);
        advances(9, slow, 0, 0, 0, 1, 1, 2, 0, 0);
        Camslide once = Works.single('t', 0, 20, 1);
        once.lay(0, 0, 98, 1, 0);
        advances(9, once, 96, 0, 0, 20, 0);
        is(9, "otherwise in the first", 0, () -> once.advance(0, 0, 0));
    }

    private static void advanceOfTheReturn() {
        Camslide x = Works.single('t', 0, 10, 3);
        x.setLimits(20, 4);
        // Less 3, less 6 and less 10: what is taken away is rounded down, so the rest is not.
        x.lay(0, 0, 0, 1, 0);
        advances(9, x, 0, 10, 7, 4, 0, 0);
        x.lay(0, 0, 95, 1, 1);
        advances(9, x, 94, 0, 10, 10, 7, 4, 0);
        x.setLimits(20, 1);
        x.lay(0, 0, 0, 2, 0);
        advances(9, x, 0, 5, 10, 9, 8, 7, 6, 5, 4, 3, 2, 1, 0, 0);
    }

    private static void layingAnew() {
        Camslide x = Works.single('t', 6, 40, 9);
        x.operation(0, 't', 7, 40, 10, 1000, 1);
        x.lay(0, 1, 0, 9, 0);
        is(8, "both at once", 10, () -> x.collisions(0));
        is(8, "in place of where it was", 60, () -> x.lay(0, 1, 50, 9, 0));
        is(8, "no longer there", 0, () -> x.collisions(0));
        is(8, "where it is laid already", 60, () -> x.lay(0, 1, 50, 9, 0));
        is(8, "begins there", 50, () -> x.begins(0, 1));
    }

    /** Two operations of slides, each 10 long, with rooms. */
    private static Camslide onSlides(int rooms, int others, int begin, int other) {
        Camslide x = Works.withOperations();
        x.operation(0, 't', 6, 40, 10, 1000, rooms);
        x.operation(0, 't', 7, 40, 10, 1000, others);
        x.lay(0, 0, begin, 9, 0);
        x.lay(0, 1, other, 9, 0);
        return x;
    }

    private static void rooms() {
        for (int i = 0; i < 8; i++) {
            int room = 1 << i;
            is(10, "room " + room + " needed by both", 10, () -> onSlides(room, room, 0, 0).collisions(0));
            is(10, "room " + room + " among all", 10, () -> onSlides(255, room, 0, 0).collisions(0));
            is(10, "all but room " + room, 0, () -> onSlides(255 - room, room, 0, 0).collisions(0));
        }
        is(10, "no rooms and all", 0, () -> onSlides(0, 255, 0, 0).collisions(0));
        Camslide x = Works.withOperations();
        for (int i = 0; i < 2; i++) {
            x.part(60, 100);
            x.operation(i, 't', 6, 40, 10, 1000, 255);
            x.lay(i, 0, 0, 9, 0);
        }
        is(10, "operations of two parts", 0, () -> x.collisions(0) + x.collisions(1));
        Camslide slide = Works.withOperations();
        slide.operation(0, 't', 8, 40, 10, 1000, 1);
        slide.operation(0, 't', 8, 40, 10, 1000, 2);
        slide.lay(0, 0, 0, 9, 0);
        slide.lay(0, 1, 0, 9, 0);
        is(10, "one slide without a room both", 0, () -> slide.collisions(0));
    }

    private static void sharedHundredths() {
        int[][] due = {{0, 0}, {1, 1}, {5, 5}, {9, 9}, {10, 10}, {11, 9}, {18, 2}, {19, 1}, {20, 0}, {90, 0}};
        for (int[] pair : due) {
            is(10, "10 and " + pair[0], pair[1], () -> onSlides(1, 1, 10, pair[0]).collisions(0));
        }
        is(11, "the last of the one ahead", 10, () -> onSlides(1, 1, 10, 1).collisionAt(0, 0));
        is(11, "the first of the one behind", 19, () -> onSlides(1, 1, 10, 19).collisionAt(0, 0));
        is(11, "from the lowest on", 11, () -> onSlides(1, 1, 10, 10).collisionAt(0, 1));
        is(11, "the last one", 19, () -> onSlides(1, 1, 10, 10).collisionAt(0, 9));
        is(11, "there are ten", MISSING, () -> onSlides(1, 1, 10, 10).collisionAt(0, 10));
        is(11, "the last of all", 99, () -> onSlides(1, 1, 90, 90).collisionAt(0, 9));
        is(11, "the first of all", 0, () -> onSlides(1, 1, 0, 0).collisionAt(0, 0));
        Camslide x = onSlides(1, 1, 10, 10);
        x.operation(0, 't', 8, 40, 10, 1000, 1);
        is(10, "one not laid", 10, () -> x.collisions(0));
        x.lay(0, 2, 12, 9, 0);
        is(10, "each hundredth once", 10, () -> x.collisions(0));
        x.halve(0, 0);
        is(10, "one that was halved", 8, () -> x.collisions(0));
    }

    private static void turretTogether() {
        Camslide x = Works.withOperations(0, 5);
        x.lay(0, 0, 0, 9, 0);
        x.lay(0, 1, 0, 9, 0);
        is(10, "0 and 5 are both of the turret", 10, () -> x.collisions(0));
        Camslide slide = Works.withOperations(5, 6);
        slide.lay(0, 0, 0, 9, 0);
        slide.lay(0, 1, 0, 9, 0);
        is(10, "6 is a slide", 0, () -> slide.collisions(0));
        Camslide same = Works.withOperations(3, 3);
        same.lay(0, 0, 0, 9, 0);
        same.lay(0, 1, 9, 9, 0);
        is(10, "one station, in one hundredth", 1, () -> same.collisions(0));
        same.lay(0, 1, 10, 9, 0);
        is(10, "one station, at once behind", 0, () -> same.collisions(0));
    }

    private static void turretTurns() {
        for (int from = 0; from < 6; from++) {
            for (int to = 0; to < 6; to++) {
                int stations = to >= from ? to - from : to + 6 - from;
                Camslide x = Works.withOperations(from, to);
                x.lay(0, 0, 0, 9, 0);
                x.lay(0, 1, 10 + 2 * stations, 9, 0);
                is(10, "turned from " + from + " to " + to, 0, () -> x.collisions(0));
                if (stations > 0) {
                    x.lay(0, 1, 9 + 2 * stations, 9, 0);
                    is(10, "not yet turned from " + from + " to " + to, 1, () -> x.collisions(0));
                    is(11, "in which it begins", 9 + 2 * stations, () -> x.collisionAt(0, 0));
                    x.lay(0, 1, 10, 9, 0);
                    is(10, "only in which it begins", 1, () -> x.collisions(0));
                }
            }
        }
    }

    private static void oneAheadOnTheTurret() {
        Camslide x = Works.withOperations(3, 0);
        x.lay(0, 0, 16, 9, 0);
        x.lay(0, 1, 0, 9, 0);
        is(10, "the one ahead has the higher number", 0, () -> x.collisions(0));
        x.lay(0, 0, 15, 9, 0);
        is(10, "and is too near", 1, () -> x.collisions(0));

        Camslide last = Works.withOperations(0, 1, 2);
        last.lay(0, 0, 0, 9, 0);
        last.lay(0, 1, 12, 9, 0);
        last.lay(0, 2, 24, 9, 0);
        is(10, "the one that begins last, not the first", 0, () -> last.collisions(0));
        last.lay(0, 2, 23, 9, 0);
        is(10, "too near to the last", 1, () -> last.collisions(0));

        // Those at once collide in ten hundredths; the third begins two behind their ends.
        Camslide near = Works.withOperations(0, 4, 5);
        Camslide far = Works.withOperations(4, 0, 5);
        for (int i = 0; i < 2; i++) {
            near.lay(0, i, 0, 9, 0);
            far.lay(0, i, 0, 9, 0);
        }
        near.lay(0, 2, 12, 9, 0);
        far.lay(0, 2, 12, 9, 0);
        is(10, "of several the highest number, near", 10, () -> near.collisions(0));
        is(10, "of several the highest number, far", 11, () -> far.collisions(0));
        is(11, "where that begins", 12, () -> far.collisionAt(0, 10));

        Camslide between = Works.withOperations(0, 6, 0);
        between.lay(0, 0, 0, 9, 0);
        between.lay(0, 1, 5, 9, 0);
        between.lay(0, 2, 10, 9, 0);
        is(10, "a slide is not ahead", 0, () -> between.collisions(0));
    }

    private static void pressingOrder() {
        is(12, "no operations", 0, () -> Works.withOperations().press(0));
        is(12, "none laid", 0, () -> Works.withOperations(0, 1).press(0));
        Camslide x = Works.withOperations();
        for (int i = 0; i < 3; i++) {
            x.operation(0, 't', 6 + i, 40, 10, 1000, 1);
        }
        x.lay(0, 0, 41, 9, 0);
        x.lay(0, 1, 40, 9, 0);
        x.lay(0, 2, 40, 9, 0);
        is(12, "three behind one another", 30, () -> x.press(0));
        is(12, "began first, of several the lower number", 0, () -> x.begins(0, 1));
        is(12, "of several the higher number", 10, () -> x.begins(0, 2));
        is(12, "began last", 20, () -> x.begins(0, 0));
        is(12, "pressed again", 30, () -> x.press(0));
        is(12, "stays", 20, () -> x.begins(0, 0));
        x.halve(0, 1);
        is(12, "one not laid", 20, () -> x.press(0));
        is(12, "it is not laid then", MISSING, () -> x.begins(0, 1));
        is(12, "the others close up", 0, () -> x.begins(0, 2));
        is(12, "a single one", 10, () -> onlyOneAt(5).press(0));

        Camslide backward = Works.withOperations(0, 0, 0, 0, 0);
        for (int i = 0; i < 5; i++) {
            backward.lay(0, i, 80 - 15 * i, 9, 0);
        }
        is(12, "the higher the number, the earlier", 50, () -> backward.press(0));
        for (int i = 0; i < 5; i++) {
            int number = i;
            is(12, "backward " + i, 40 - 10 * i, () -> backward.begins(0, number));
        }
    }

    private static Camslide onlyOneAt(int position) {
        Camslide x = Works.withOperations(position);
        x.lay(0, 0, 90, 9, 0);
        return x;
    }

    private static void pressingSlides() {
        // A needs room 1 in 0 to 9, B room 2 in 0 to 19, C rooms 1 and 2 behind both; D fits into room 1 ahead of C.
        int[] lengths = {10, 11};
        for (int length : lengths) {
            Camslide x = Works.withOperations();
            x.operation(0, 't', 6, 40, 10, 1000, 1);
            x.operation(0, 't', 7, 40, 10, 1000, 2);
            x.operation(0, 't', 8, 40, 10, 1000, 3);
            x.operation(0, 't', 6, 40, 10, 1000, 1);
            x.lay(0, 0, 0, 9, 0);
            x.lay(0, 1, 1, 9, 10);
            x.lay(0, 2, 2, 9, 0);
            x.lay(0, 3, 3, length - 1, 0);
            is(12, "a gap of 10 and " + length, length == 10 ? 30 : 41, () -> x.press(0));
            is(12, "from the first hundredth on", length == 10 ? 10 : 30, () -> x.begins(0, 3));
            is(12, "behind both", 20, () -> x.begins(0, 2));
            is(12, "none collide", 0, () -> x.collisions(0));
        }
        Camslide part = Works.withOperations(6);
        part.part(60, 100);
        part.operation(1, 't', 6, 40, 10, 1000, 0);
        part.lay(0, 0, 7, 9, 0);
        part.lay(1, 0, 8, 9, 3);
        is(12, "one part", 10, () -> part.press(0));
        is(12, "the other part stays", 8, () -> part.begins(1, 0));
        is(12, "rise, dwell and return stay", 13, () -> part.press(1));
        is(12, "the rise", 35, () -> part.advance(1, 0, 7));
        is(12, "the dwell", 40, () -> part.advance(1, 0, 11));
        is(12, "the return", 0, () -> part.advance(1, 0, 12));
    }

    private static void pressingTheTurret() {
        Camslide x = Works.withOperations();
        x.operation(0, 't', 6, 40, 10, 1000, 1);
        x.operation(0, 't', 2, 40, 10, 1000, 1);
        x.operation(0, 't', 2, 20, 10, 1000, 0);
        x.operation(0, 't', 1, 20, 10, 1000, 0);
        x.lay(0, 0, 0, 9, 0);
        x.lay(0, 1, 10, 9, 0);
        x.lay(0, 2, 20, 4, 0);
        x.lay(0, 3, 70, 4, 0);
        is(12, "behind those of the turret", 40, () -> x.press(0));
        is(12, "behind the slide by its room", 10, () -> x.begins(0, 1));
        is(12, "not into the free hundredths ahead", 20, () -> x.begins(0, 2));
        is(12, "behind the turning from the last one", 35, () -> x.begins(0, 3));
        is(12, "turned in time", 0, () -> x.collisions(0));

        Camslide room = Works.withOperations(0, 1);
        room.operation(0, 't', 6, 40, 10, 1000, 8);
        room.operation(0, 't', 2, 40, 10, 1000, 8);
        room.lay(0, 0, 0, 9, 0);
        room.lay(0, 1, 30, 9, 0);
        room.lay(0, 2, 40, 9, 21);
        room.lay(0, 3, 80, 9, 0);
        is(12, "by a room later than by turning", 41, () -> room.press(0));
        is(12, "turned by one", 12, () -> room.begins(0, 1));
        is(12, "a slide from 0 on", 0, () -> room.begins(0, 2));
        is(12, "from the first without the room", 31, () -> room.begins(0, 3));
        Camslide first = onlyOneAt(5);
        first.press(0);
        is(12, "the first of the turret from 0 on, wherever it stood", 0, () -> first.begins(0, 0));
    }

    private static void pressingToTheEnd() {
        // 50 of the first, 10 for turning from 1 to 0, and the second.
        Camslide x = Works.withOperations(1, 0);
        x.lay(0, 0, 0, 49, 0);
        x.lay(0, 1, 50, 39, 0);
        is(12, "ends in 99", 100, () -> x.press(0));
        is(12, "the last one", 60, () -> x.begins(0, 1));
        x.lay(0, 0, 1, 49, 0);
        x.lay(0, 1, 50, 40, 0);
        is(12, "would end behind 99", UNSUPPORTED, () -> x.press(0));
        is(12, "none was moved", 1, () -> x.begins(0, 0));
        is(12, "nor the other", 50, () -> x.begins(0, 1));
        x.lay(0, 1, 50, 39, 0);
        is(12, "in time again", 100, () -> x.press(0));
    }

    private static Object cycleOf(int travel, int rise) {
        Camslide x = Works.single('t', 6, travel, rise);
        return x.cycle(0);
    }

    private static void cyclesRounded() {
        is(14, "600 by 6", 100, () -> cycleOf(10, 6));
        is(14, "600 by 7", 86, () -> cycleOf(10, 7));
        is(14, "600 by 5", 120, () -> cycleOf(10, 5));
        is(14, "600 by 99", 7, () -> cycleOf(10, 99));
        Camslide x = Works.single('t', 6, 20, 12);
        x.operation(0, 't', 7, 10, 10, 1000, 2);
        x.lay(0, 1, 0, 6, 0);
        is(15, "of several the lowest", 0, () -> x.slowest(0));
        x.lay(0, 1, 0, 5, 0);
        is(14, "the greatest", 120, () -> x.cycle(0));
        is(15, "the one of the greatest, not of most time", 1, () -> x.slowest(0));
        x.lay(0, 1, 0, 7, 0);
        is(14, "the greatest again", 100, () -> x.cycle(0));
        is(15, "the other one", 0, () -> x.slowest(0));
        x.operation(0, 't', 8, 10, 10, 1000, 4);
        is(14, "one is not laid", MISSING, () -> x.cycle(0));
        x.lay(0, 2, 0, 6, 0);
        is(14, "all are", 100, () -> x.cycle(0));
        is(15, "still the lowest", 0, () -> x.slowest(0));
    }

    private static void cyclesByCollisions() {
        is(14, "one hundredth collides", MISSING, () -> onSlides(1, 1, 10, 1).cycle(0));
        is(14, "none", 267, () -> onSlides(1, 1, 10, 0).cycle(0));
        Camslide x = Works.withOperations(2, 1);
        x.lay(0, 0, 0, 9, 0);
        x.lay(0, 1, 19, 9, 0);
        is(14, "not yet turned", MISSING, () -> x.cycle(0));
        is(15, "not yet turned", MISSING, () -> x.slowest(0));
        x.lay(0, 1, 20, 9, 0);
        is(14, "turned", 267, () -> x.cycle(0));
        is(15, "turned", 0, () -> x.slowest(0));
    }

    private static void stationsByNumbers() {
        Camslide x = Works.withOperations(0, 0, 0, 0, 0, 0, 0, 0, 0, 0);
        int[] due = {0, 1, 2, 3, 4, 5, 0, 1, 2, 3};
        for (int i = 0; i < due.length; i++) {
            int number = i;
            is(16, "station of " + i, due[i], () -> x.station(0, number, 5));
            is(16, "station then of " + i, 5, () -> x.station(0, number, 0));
        }
    }

    private static void sumsAtStations() {
        Camslide x = Works.withOperations(0);
        is(17, "one, and 100 for indexing", 124, () -> x.cycleOfSix(0));
        for (int i = 1; i < 6; i++) {
            x.operation(0, 't', 0, 10, 10, 1000, 0);
        }
        is(17, "the greatest", 124, () -> x.cycleOfSix(0));
        x.operation(0, 't', 0, 1, 10, 1000, 0);
        is(17, "the seventh at the station of the first", 130, () -> x.cycleOfSix(0));
        x.station(0, 6, 5);
        is(17, "elsewhere", 124, () -> x.cycleOfSix(0));
        x.station(0, 0, 5);
        is(17, "three together", 136, () -> x.cycleOfSix(0));
    }

    private static void balancing() {
        Camslide x = Works.withOperations();
        // Times of 6, 12, 12, 6, 18, 6, 6 and 6: 4, 1, 2, 0, 3 and 5 each alone, 6 behind 0, and 7 behind 3.
        int[] travels = {10, 20, 20, 10, 30, 10, 10, 10};
        for (int travel : travels) {
            x.operation(0, 't', 0, travel, 10, 1000, 0);
        }
        is(18, "balanced", 118, () -> x.balance(0));
        int[] due = {3, 1, 2, 4, 0, 5, 3, 4};
        for (int i = 0; i < due.length; i++) {
            int number = i;
            is(18, "station of " + i, due[i], () -> x.station(0, number, due[number]));
        }
        Camslide time = Works.withOperations();
        time.operation(0, 't', 0, 50, 10, 5000, 0);
        time.operation(0, 't', 0, 10, 10, 500, 0);
        time.station(0, 0, 3);
        time.station(0, 1, 3);
        is(18, "by times, not by travels", 112, () -> time.balance(0));
        is(18, "the longer one first", 0, () -> time.station(0, 1, 0));
        is(18, "the other one second", 1, () -> time.station(0, 0, 0));
    }

    private static Object camRise(int travel, int ratio) {
        Camslide x = Works.single('t', 0, travel, 50);
        x.setRatio(0, ratio);
        return x.camRise(0, 0);
    }

    private static void camRises() {
        is(21, "40 by 4", 10, () -> camRise(40, 4));
        is(21, "41 by 4", 11, () -> camRise(41, 4));
        is(21, "1 by 4", 1, () -> camRise(1, 4));
        is(21, "39 by 3", 13, () -> camRise(39, 3));
        is(21, "40 by 3", 14, () -> camRise(40, 3));
        is(21, "999 by 2", 500, () -> camRise(999, 2));
        is(21, "999 by 1", 999, () -> camRise(999, 1));
        Camslide x = Works.single('t', 8, 40, 50);
        is(20, "1 at first", 40, () -> x.camRise(0, 0));
        x.setRatio(7, 4);
        is(20, "of another position", 40, () -> x.camRise(0, 0));
        x.setRatio(8, 2);
        is(20, "of its position", 20, () -> x.camRise(0, 0));
    }

    private static void camsToServe() {
        Camslide x = Works.withCam(1000);
        is(22, "799 would be left", UNSUPPORTED, () -> x.camFor(0, 0));
        x.cam(1002);
        x.cam(1001);
        x.cam(1001);
        is(22, "the least radius that leaves 800, of several the lowest number", 2, () -> x.camFor(0, 0));
        x.cutCam(1, 0, 0);
        is(22, "one that has its shape", 1, () -> x.camFor(0, 0));
        x.setRatio(0, 2);
        is(22, "the rise is of the shape", 0, () -> x.camFor(0, 0));
        x.setRatio(0, 1);
        is(22, "it has its shape again", 1, () -> x.camFor(0, 0));
        is(22, "new ones have no shape", 0, () -> freshCams().camFor(0, 0));
    }

    /** Two cams ahead of an operation whose begin is 0, as all of a new cam is. */
    private static Camslide freshCams() {
        Camslide x = Works.withOperations(0);
        x.lay(0, 0, 0, 9, 0);
        x.cam(1000);
        x.cam(3000);
        return x;
    }

    private static void camShapes() {
        Camslide x = Works.withOperations(0, 0, 1);
        x.lay(0, 0, 10, 9, 1);
        x.lay(0, 1, 10, 9, 1);
        x.lay(0, 2, 10, 9, 1);
        x.cam(9999);
        is(23, "cut", 9909, () -> x.cutCam(0, 0, 0));
        is(23, "it has it", 9909, () -> x.cutCam(0, 0, 0));
        is(23, "so has another operation", 9909, () -> x.cutCam(0, 0, 1));
        is(23, "also at another position", 9909, () -> x.cutCam(0, 0, 2));
        x.lay(0, 0, 11, 9, 1);
        is(23, "another begin", 9819, () -> x.cutCam(0, 0, 0));
        x.lay(0, 0, 11, 10, 1);
        is(23, "another rise in hundredths", 9729, () -> x.cutCam(0, 0, 0));
        x.lay(0, 0, 11, 10, 0);
        is(23, "another dwell", 9639, () -> x.cutCam(0, 0, 0));
        x.setLimits(20, 20);
        x.lay(0, 0, 11, 10, 0);
        is(23, "another return is none", 9639, () -> x.cutCam(0, 0, 0));
        x.setRatio(0, 4);
        is(23, "another rise of the cam", 9579, () -> x.cutCam(0, 0, 0));
        x.setRatio(0, 1);
        is(23, "the one before is gone", 9489, () -> x.cutCam(0, 0, 0));
        x.press(0);
        is(23, "pressed, it begins elsewhere", 9399, () -> x.cutCam(0, 0, 0));
    }

    private static void camsCutThin() {
        is(23, "800 are left", 800, () -> Works.withCam(1001).cutCam(0, 0, 0));
        is(23, "799 would be", UNSUPPORTED, () -> Works.withCam(1000).cutCam(0, 0, 0));
        Camslide x = Works.withCam(1001);
        x.cutCam(0, 0, 0);
        is(23, "thin, yet it has the shape", 800, () -> x.cutCam(0, 0, 0));
        is(22, "and serves", 0, () -> x.camFor(0, 0));
        x.lay(0, 1, 30, 9, 0);
        is(23, "not for another", UNSUPPORTED, () -> x.cutCam(0, 0, 1));
        is(22, "nor serves it", UNSUPPORTED, () -> x.camFor(0, 1));
    }

    private static Object piecesOf(int length, int bar) {
        Camslide x = new Camslide();
        x.part(60, length);
        x.bring(60, 1, bar);
        return x.piecesOfBar(0);
    }

    private static void piecesOfBars() {
        is(26, "400 by 400", 1, () -> piecesOf(380, 1000));
        is(26, "400 by 401", 0, () -> piecesOf(381, 1000));
        is(26, "799 by 400", 1, () -> piecesOf(380, 1399));
        is(26, "800 by 400", 2, () -> piecesOf(380, 1400));
        is(26, "the shortest of the longest", 1313, () -> piecesOf(10, 40000));
        is(26, "the longest of the shortest", 0, () -> piecesOf(999, 1000));
        Camslide x = Works.formed();
        x.bring(61, 1, 2600);
        is(26, "of another diameter", MISSING, () -> x.piecesOfBar(0));
        x.bring(60, 1, 2600);
        is(26, "told", 5, () -> x.piecesOfBar(0));
        x.bring(60, 1, 1000);
        is(26, "the last one told is of all", 1, () -> x.piecesOfBar(0));
        is(29, "of both bars one", 2, () -> x.run(0, 999));
        is(26, "used up, they were brought", 1, () -> x.piecesOfBar(0));
        x.bring(61, 1, 40000);
        is(26, "each diameter has its length", 1, () -> x.piecesOfBar(0));
    }

    private static void barsUsedUp() {
        Camslide x = Works.formed();
        is(29, "no bars", 0, () -> x.run(0, 1));
        x.bring(60, 2, 2600);
        is(29, "all that the bars give", 10, () -> x.run(0, 10));
        x.bring(60, 2, 2600);
        is(29, "one more asked", 10, () -> x.run(0, 11));
        is(27, "used up", 0, () -> x.bars(60));
        is(29, "none left", 0, () -> x.run(0, 1));
        x.bring(60, 2, 2600);
        is(29, "one bar", 5, () -> x.run(0, 5));
        is(27, "the other is not begun", 1, () -> x.bars(60));
        is(29, "one piece of it", 1, () -> x.run(0, 1));
        is(27, "it is begun", 0, () -> x.bars(60));
        is(27, "of what there was none", 0, () -> x.bars(400));
        Camslide none = new Camslide();
        none.part(60, 381);
        none.operation(0, 't', 6, 10, 10, 1000, 0);
        none.lay(0, 0, 0, 9, 0);
        none.bring(60, 3, 1000);
        is(29, "bars that give none", 0, () -> none.run(0, 9));
        is(27, "are left", 3, () -> none.bars(60));
        none.bring(60, 1, 1001);
        is(29, "bars that give one", 4, () -> none.run(0, 9));
        int[] diameters = {Integer.MIN_VALUE, -1, 0, 19, 20, 400, 401, Integer.MAX_VALUE};
        for (int diameter : diameters) {
            is(27, "diameter " + diameter, 0, () -> none.bars(diameter));
        }
    }

    private static void barBegun() {
        Camslide x = Works.formed();
        x.bring(60, 2, 2600);
        is(29, "begun", 2, () -> x.run(0, 2));
        x.bring(60, 1, 1000);
        is(29, "as many as were left, whatever length is told", 3, () -> x.run(0, 3));
        is(27, "no other was begun", 2, () -> x.bars(60));
        is(29, "behind it the length told", 1, () -> x.run(0, 1));
        is(27, "another one", 1, () -> x.bars(60));
        is(29, "that one, too, is used up", 1, () -> x.run(0, 99));
        x.bring(60, 1, 2600);
        x.run(0, 4);
        x.bring(60, 1, 40000);
        is(29, "one is left of the begun one, whatever is told", 1, () -> x.run(0, 1));
        is(27, "the long one is not begun", 1, () -> x.bars(60));
        x.run(0, 1);
        is(25, "one that was begun does not count", 999 - 9, () -> bringMost(x));
        x.stop(true);
        x.stop(false);
        is(29, "a stop leaves what was begun", 97, () -> x.run(0, 97));
        is(27, "all from it", 990, () -> x.bars(60));
    }

    private static int bringMost(Camslide x) {
        for (int i = 0; i < 9; i++) {
            x.bring(60, 99, 2600);
        }
        return x.bring(60, 99, 2600);
    }

    private static void barGone() {
        Camslide x = Works.formed();
        x.part(60, 380);
        x.operation(1, 't', 7, 10, 10, 1000, 0);
        x.part(80, 380);
        x.operation(2, 't', 7, 10, 10, 1000, 0);
        x.lay(2, 0, 0, 9, 0);
        x.bring(60, 9, 2600);
        x.run(0, 1);
        is(29, "a run that is refused", UNSUPPORTED, () -> x.run(1, 1));
        is(29, "leaves the bar", 4, () -> x.run(0, 4));
        is(27, "eight left", 8, () -> x.bars(60));
        x.run(0, 1);
        x.lay(1, 0, 0, 9, 0);
        is(29, "a run of another part", 1, () -> x.run(1, 1));
        is(27, "takes another bar", 6, () -> x.bars(60));
        is(29, "and the first part again", 1, () -> x.run(0, 1));
        is(27, "takes another, too", 5, () -> x.bars(60));
        is(29, "a run that makes nothing", 0, () -> x.run(2, 1));
        x.run(0, 4);
        is(27, "makes the bar go", 4, () -> x.bars(60));
        x.bring(60, 1, 1000);
        x.run(0, 1);
        is(29, "nothing is left of a bar used up", 5, () -> x.run(0, 999));
    }

    /** Part 0 of diameter 60, 1313 of which one bar gives; it wears the position 6. */
    private static Camslide shortOnes() {
        Camslide x = new Camslide();
        x.part(60, 10);
        x.operation(0, 't', 6, 10, 10, 1000, 0);
        x.lay(0, 0, 0, 9, 0);
        x.bring(60, 9, 40000);
        return x;
    }

    private static void heat() {
        int[][] due = {{1, 20}, {4, 20}, {5, 19}, {9, 19}, {10, 18}, {94, 2}, {95, 1}, {99, 1}, {100, 0}, {101, 0},
            {105, 0}, {999, 0}};
        for (int[] pair : due) {
            Camslide x = shortOnes();
            x.run(0, pair[0]);
            is(32, "off behind " + pair[0], pair[1], () -> x.error(0));
            is(32, "worn and off behind " + pair[0], pair[0] + pair[1], () -> x.error(6));
        }
        Camslide x = shortOnes();
        x.part(60, 10);
        x.operation(1, 't', 7, 10, 10, 1000, 0);
        x.lay(1, 0, 0, 9, 0);
        x.run(0, 4);
        x.run(1, 1);
        is(32, "pieces of all parts warm it", 19, () -> x.error(0));
    }

    private static void stops() {
        Camslide x = shortOnes();
        for (int i = 0; i < 9; i++) {
            int position = i;
            is(28, "cold at first", 20, () -> x.error(position));
        }
        x.run(0, 100);
        is(28, "it went", false, () -> x.stop(false));
        is(28, "warm as before", 0, () -> x.error(0));
        is(28, "it went still", false, () -> x.stop(true));
        is(28, "cold behind a stop", 20, () -> x.error(0));
        is(28, "it was stopped", true, () -> x.stop(true));
        is(29, "stopped", STATE, () -> x.run(0, 1));
        is(28, "it was stopped still", true, () -> x.stop(false));
        is(28, "cold, going on", 20, () -> x.error(0));
        is(29, "going on", 4, () -> x.run(0, 4));
        is(28, "pieces since the stop", 20, () -> x.error(0));
        x.run(0, 1);
        is(28, "and one more", 19, () -> x.error(0));
        is(28, "wear stays", 105 + 19, () -> x.error(6));
    }

    private static void wear() {
        Camslide x = shortOnes();
        x.operation(0, 't', 6, 10, 10, 1000, 0);
        x.operation(0, 't', 8, 10, 10, 1000, 0);
        x.lay(0, 1, 30, 9, 0);
        x.lay(0, 2, 30, 9, 0);
        x.setWear(8, 20);
        x.run(0, 1);
        is(30, "once for each piece, by 1 at first", 21, () -> x.error(6));
        is(30, "by 20", 40, () -> x.error(8));
        is(30, "without an operation there", 20, () -> x.error(7));
        is(30, "20 before", 20, () -> x.setWear(8, 0));
        x.run(0, 1);
        is(30, "by 0", 40, () -> x.error(8));
        is(30, "the others go on", 22, () -> x.error(6));
    }

    private static void corrections() {
        int[][] due = {{1, 0}, {2, 0}, {3, 0}, {4, 1}, {200, 197}};
        for (int[] pair : due) {
            Camslide x = new Camslide();
            is(31, "the first steps lose none", pair[0], () -> x.correct(0, -pair[0]));
            is(31, "the other way " + pair[0], pair[1], () -> x.correct(0, pair[0]));
            is(32, "corrected", 20 + pair[0] - pair[1], () -> x.error(0));
            is(31, "the same way on, also behind lost ones", 9, () -> x.correct(0, 9));
            is(31, "and back " + pair[0], pair[1], () -> x.correct(0, -pair[0]));
        }
        Camslide x = new Camslide();
        is(31, "none ahead of all", 0, () -> x.correct(0, 0));
        is(31, "turn no way", 7, () -> x.correct(0, 7));
        is(31, "none behind some", 0, () -> x.correct(0, 0));
        is(31, "the same way", 7, () -> x.correct(0, 7));
        x.correct(0, 0);
        is(31, "the other way behind none", 4, () -> x.correct(0, -7));
        is(32, "by 14 less 4", 10, () -> x.error(0));
        is(31, "another position is ahead of all", 7, () -> x.correct(8, -7));
        is(32, "below 0", -180, () -> correctedBy(200));
        is(32, "above", 220, () -> correctedBy(-200));
    }

    private static int correctedBy(int steps) {
        Camslide x = new Camslide();
        x.correct(4, steps);
        return x.error(4);
    }

    private static void faces() {
        Camslide x = Works.formed();
        x.bring(60, 9, 2600);
        for (int face = 900; face >= 300; face -= 100) {
            int due = face;
            x.run(0, 5);
            is(33, "ground to " + face, due, () -> x.grind(6));
            is(33, "its wear with it", true, () -> x.error(6) == x.error(7));
        }
        x.run(0, 5);
        int worn = x.error(6);
        is(33, "200 would be left", UNSUPPORTED, () -> x.grind(6));
        is(33, "it keeps its wear", worn, () -> x.error(6));
        x.operation(0, 't', 7, 10, 10, 1000, 2);
        is(33, "one there that does not form", UNSUPPORTED, () -> x.grind(7));
        x.operation(0, 'f', 7, 10, 10, 1000, 2);
        x.correct(7, 3);
        int corrected = x.error(7);
        is(33, "one there that forms, laid or not", 900, () -> x.grind(7));
        is(33, "corrections stay", corrected, () -> x.error(7));
        for (char kind : "tdhkc".toCharArray()) {
            is(33, "kind " + kind, UNSUPPORTED, () -> Works.single(kind, 6, 10, 9).grind(6));
        }
    }

    /** Makes a piece on a cold machine without wear, its error being 20 less the steps. */
    private static Object isGood(int tolerance, int steps) {
        Camslide x = shortOnes();
        x.setWear(6, 0);
        x.setTolerance(0, 0, tolerance);
        x.correct(6, steps);
        x.run(0, 1);
        return x.good(0) == 1 && x.bad(0) == 0;
    }

    private static void tolerances() {
        is(34, "50 of 50", true, () -> isGood(50, -30));
        is(34, "51 of 50", false, () -> isGood(50, -31));
        is(34, "-50 of 50", true, () -> isGood(50, 70));
        is(34, "-51 of 50", false, () -> isGood(50, 71));
        is(34, "1 of 1", true, () -> isGood(1, 19));
        is(34, "2 of 1", false, () -> isGood(1, 18));
        is(34, "-1 of 1", true, () -> isGood(1, 21));
        is(34, "-2 of 1", false, () -> isGood(1, 22));
        Camslide x = shortOnes();
        is(34, "50 at first", 50, () -> x.setTolerance(0, 0, 21));
        x.run(0, 1);
        is(35, "a piece wears ahead of its gauge", 1, () -> x.good(0));
        x.setTolerance(0, 0, 23);
        x.run(0, 3);
        is(36, "24 of 23", 1, () -> x.bad(0));
        x.setTolerance(0, 0, 24);
        x.run(0, 1);
        is(35, "the fifth counts among the pieces ahead of its gauge", 4, () -> x.good(0));
        x.setTolerance(0, 0, 500);
        x.operation(0, 't', 7, 10, 10, 1000, 0);
        x.lay(0, 1, 0, 9, 0);
        x.setTolerance(0, 1, 1);
        x.run(0, 1);
        is(36, "each operation", 2, () -> x.bad(0));
        x.correct(7, 20);
        x.run(0, 1);
        is(35, "both within", 5, () -> x.good(0));
        is(36, "none more", 2, () -> x.bad(0));
    }

    private static void lots() {
        Camslide x = shortOnes();
        x.setTolerance(0, 0, 22);
        // Errors of 21 and 22, and 23 and more from the third on.
        is(29, "a lot of five", 5, () -> x.run(0, 5));
        is(37, "two good ones", true, () -> x.isAccepted(0, 2, 0));
        is(37, "with one bad one", false, () -> x.isAccepted(0, 3, 0));
        is(37, "one may be bad", true, () -> x.isAccepted(0, 3, 1));
        is(37, "three of five, two may be", false, () -> x.isAccepted(0, 5, 2));
        is(37, "three of five, three may be", true, () -> x.isAccepted(0, 5, 3));
        is(37, "more than the lot has", true, () -> x.isAccepted(0, 6, 3));
        is(37, "many more", false, () -> x.isAccepted(0, 999, 2));
        x.run(0, 999);
        is(37, "999 are bad, 998 may be", false, () -> x.isAccepted(0, 999, 998));
        is(37, "999 are bad, 999 may be", true, () -> x.isAccepted(0, 999, 999));
        is(37, "998 of them", true, () -> x.isAccepted(0, 998, 998));
        for (int i = 0; i < 5; i++) {
            x.correct(6, 200);
        }
        x.run(0, 2);
        is(37, "of fewer pieces", true, () -> x.isAccepted(0, 1, 0));
        is(37, "the last run alone", true, () -> x.isAccepted(0, 999, 0));
        is(36, "bad ones of all runs", 1002, () -> x.bad(0));
        is(35, "good ones of all runs", 4, () -> x.good(0));

        Camslide few = Works.formed();
        few.part(60, 10);
        few.operation(1, 't', 7, 10, 10, 1000, 0);
        few.lay(1, 0, 0, 9, 0);
        few.run(0, 1);
        is(37, "a run that made none", MISSING, () -> few.isAccepted(0, 1, 999));
        few.bring(60, 1, 2600);
        few.setTolerance(0, 0, 20);
        few.run(0, 9);
        few.run(0, 9);
        is(37, "the last run that made some", false, () -> few.isAccepted(0, 9, 4));
        is(37, "all five are bad", true, () -> few.isAccepted(0, 9, 5));
        few.bring(60, 1, 2600);
        few.run(1, 1);
        is(37, "a lot of one piece", true, () -> few.isAccepted(1, 999, 0));
        few.run(1, 9);
        is(37, "another part has its own lot", true, () -> few.isAccepted(1, 9, 0));
        is(37, "and leaves that of the first", false, () -> few.isAccepted(0, 9, 4));
    }

    private static void plan(String what, int order, int machine, long end, int... orders) {
        Camslide x = Works.planned(orders);
        is(39, what, machine, () -> x.machineOf(order));
        is(40, what, end, () -> x.ends(order));
    }

    private static void settersTimes() {
        plan("1800 if it had no order yet", 0, 0, 1803, 0, 1);
        plan("not at all for the same part", 1, 0, 1806, 0, 1, 0, 1);
        plan("600 for the same diameter", 1, 0, 2406, 0, 1, 1, 1);
        // On machine 0 from 1803 on by 1800, or on machine 1 from 1800 on.
        plan("1800 for another diameter", 1, 1, 3603, 0, 1, 2, 1);
        // On 0 by 600 ends 2403 + 3 * 399 + 3; on 1 from 1800 by 1800 ends 3603.
        plan("600 on 0 ends first", 1, 0, 3600, 0, 399, 1, 1);
        plan("600 on 0 ends at once with 1800 on 1", 1, 0, 3603, 0, 400, 1, 1);
        plan("600 on 0 ends later", 1, 1, 3603, 0, 401, 1, 1);
        plan("nothing on 0 ends at once with 1800 on 1", 1, 0, 3603, 0, 600, 0, 1);
        plan("nothing on 0 ends later", 1, 1, 3603, 0, 601, 0, 1);
        plan("two without orders, the lowest", 1, 1, 3603, 0, 9999, 2, 1);
        plan("the third machine", 2, 2, 5403, 0, 9999, 2, 9999, 1, 1);
        // Machine 0 is free at 31797, 1 at 33597 and 2 at 35397; a fourth one would be set from 5400 on.
        plan("no fourth machine", 3, 0, 31800, 0, 9999, 2, 9999, 1, 9999, 0, 1);
        plan("the most pieces", 0, 0, 1800 + 29997, 0, 9999);
    }

    private static void settersWays() {
        // 0 on machine 0 until 31797, 2 on 1 until 33597, 1 on 2 set from 3600 on until 5403.
        plan("the setter waits for the machine", 3, 2, 5403 + 600 + 3, 0, 9999, 2, 9999, 1, 1, 0, 1);
        // The setter is on machine 1 until 3600, and 0 is free from 2100 on.
        plan("the machine waits for the setter", 2, 0, 3600 + 600 + 3, 0, 100, 2, 600, 1, 1);
        plan("the same part does not wait for the setter", 2, 0, 2103, 0, 100, 2, 600, 0, 1);
        plan("nor keeps it", 3, 0, 4203, 0, 100, 2, 600, 0, 1, 1, 1);
        // By parts 0 and 1 on machine 0; the last one of it tells.
        plan("another part between", 2, 0, 2406 + 600 + 3, 0, 1, 1, 1, 0, 1);
        plan("the last one, not the first", 2, 0, 2409, 0, 1, 1, 1, 1, 1);
    }

    private static void endsRounded() {
        Camslide x = Works.single('t', 6, 10, 6);
        x.order(0, 3);
        is(40, "300 hundredths", 1803L, () -> x.ends(0));
        x.lay(0, 0, 0, 5, 0);
        is(40, "360 hundredths", 1804L, () -> x.ends(0));
        x.lay(0, 0, 0, 99, 0);
        is(40, "21 hundredths", 1801L, () -> x.ends(0));
        x.order(0, 97);
        is(40, "hundredths are kept until the end", 1807L, () -> x.ends(1));
        x.order(0, 1);
        is(40, "one more, and rounded up", 1808L, () -> x.ends(2));
        Camslide one = Works.single('t', 6, 10, 99);
        one.order(0, 43);
        is(40, "one hundredth more, and rounded up", 1804L, () -> one.ends(0));
    }

    private static Object chips(int diameter, int travel, int operations) {
        Camslide x = new Camslide();
        x.part(diameter, 100);
        for (int i = 0; i < operations; i++) {
            x.operation(0, 't', 0, travel, 1, 100, 0);
        }
        return x.chips(0);
    }

    private static void chipsRounded() {
        is(41, "8000", 80L, () -> chips(20, 1, 0));
        is(41, "8820", 88L, () -> chips(21, 1, 0));
        is(41, "8880 and 19", 88L, () -> chips(21, 3, 1));
        is(41, "8820 and 84", 89L, () -> chips(21, 4, 1));
        is(41, "8820 and 63 and 63", 89L, () -> chips(21, 3, 2));
        is(41, "the most", 71960L, () -> chips(400, 999, 10));
    }

    private static Object paysFrom(int travel, int speed, int rise) {
        Camslide x = new Camslide();
        x.part(60, 100);
        x.operation(0, 't', 6, travel, 1, speed, 0);
        x.setLimits(99, 99);
        x.lay(0, 0, 0, rise, 0);
        return x.paysFrom(0);
    }

    private static void paying() {
        is(42, "no slower with a cycle of 510000", 2, () -> paysFrom(85, 100, 1));
        is(42, "slower with a cycle of 504000", 3, () -> paysFrom(84, 100, 1));
        is(42, "a cycle of 300", 3400, () -> paysFrom(10, 1000, 20));
        is(42, "a cycle of 316", 3228, () -> paysFrom(10, 1000, 19));
        is(42, "a cycle of 3", 340000, () -> paysFrom(1, 5000, 99));
    }

    private static void checksums() {
        Camslide x = Works.withOperations();
        is(43, "no operations", 0L, () -> x.checksum());
        x.operation(0, 't', 0, 7, 1, 100, 0);
        is(43, "not laid is -1", 0L, () -> x.checksum());
        x.lay(0, 0, 0, 1, 0);
        is(43, "laid in 0", 7L, () -> x.checksum());
        x.lay(0, 0, 98, 1, 0);
        is(43, "laid in 98", 693L, () -> x.checksum());
        x.operation(0, 't', 0, 8, 1, 100, 0);
        is(43, "31 times, and the next", 693L * 31 + 1, () -> x.checksum());
    }

    private static void shares() {
        Camslide x = shortOnes();
        is(44, "no pieces", ARITHMETIC, () -> x.goodShare());
        x.setTolerance(0, 0, 22);
        x.run(0, 1);
        is(44, "all", 1f, () -> x.goodShare());
        x.run(0, 2);
        is(44, "two of three", 2f / 3f, () -> x.goodShare());
        Camslide bad = shortOnes();
        bad.setTolerance(0, 0, 1);
        bad.run(0, 1);
        is(44, "none", 0f, () -> bad.goodShare());
        is(45, "no cams", ARITHMETIC, () -> bad.meanRadius());
        bad.cam(1000);
        is(45, "one", 1000.0, () -> bad.meanRadius());
        bad.cam(1001);
        is(45, "two", 1000.5, () -> bad.meanRadius());
    }

    private static void soundness() {
        is(46, "new", true, () -> Works.fresh().isSound());
        is(46, "busy", true, () -> Works.busy().isSound());
        is(46, "stopped", true, () -> Works.busyAndStopped().isSound());
        is(46, "full, with a face of 300", true, () -> Works.full().isSound());
        is(46, "colliding, and laid until 99", true, () -> Works.colliding().isSound());
        Camslide thin = Works.withCam(1001);
        thin.cutCam(0, 0, 0);
        is(46, "with a cam of 800", true, () -> thin.isSound());
    }

    private static void lastCall() {
        Camslide x = shortOnes();
        for (int i = 0; i < 4; i++) {
            x.bring(60, 99, 40000);
        }
        x.setWear(6, 20);
        // With the nine calls up to here, the 500 runs and three more, all 512 are used.
        for (int i = 0; i < 500; i++) {
            is(29, "run " + i, 999, () -> x.run(0, 999));
        }
        is(35, "good ones", 1, () -> x.good(0));
        is(44, "their share", 1f / 499500f, () -> x.goodShare());
        is(32, "worn by the 512th call", 499500 * 20, () -> x.error(6));
        Camslide turned = new Camslide();
        for (int i = 0; i < 511; i++) {
            turned.correct(0, 200);
        }
        is(32, "corrected by the 512th call", 20 - 511 * 200, () -> turned.error(0));
    }
}
