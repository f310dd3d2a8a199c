/**
 * Each call that is refused, by each of its causes, on both sides of the bound; behind it nothing has changed, and of
 * several exceptions that apply the one that is documented first is thrown.
 */
public final class CamslideRefusedTest extends Twins {
    public static void main(String[] args) {
        parts();
        operations();
        halves();
        operationsAsked();
        limits();
        laying();
        advancing();
        collisions();
        pressing();
        cycles();
        stations();
        cams();
        ratios();
        camsServing();
        bars();
        runs();
        wear();
        corrections();
        grinding();
        tolerances();
        lots();
        ordersAdded();
        plans();
        figures();
        close();
    }

    /** The number of a thing that must be there: below 0, and from the first on that is not there. */
    private static void missing(int promise, String what, int count, Maker maker, NumberedUse call) {
        int[] numbers = {-1, count, count + 1, Integer.MIN_VALUE, Integer.MAX_VALUE};
        for (int number : numbers) {
            refused(promise, what + " " + number + " of " + count, INDEX, maker, x -> call.on(x, number));
        }
    }

    private static void parts() {
        bounds(2, "diameter", RANGE, 20, 4, 400, 4, Works::busy, (x, n) -> x.part(n, 100));
        bounds(2, "length", RANGE, 10, 4, 999, 4, Works::busy, (x, n) -> x.part(60, n));
        bounds(2, "diameter of the first", RANGE, 20, 0, 400, 0, Works::fresh, (x, n) -> x.part(n, 100));
        is(2, "the fifth", 4, () -> Works.nearlyFull().part(60, 100));
        refused(2, "the sixth", STATE, Works::full, x -> x.part(70, 100));
        refused(2, "diameter ahead of full", RANGE, Works::full, x -> x.part(401, 100));
        refused(2, "length ahead of full", RANGE, Works::full, x -> x.part(60, 9));
    }

    private static void operations() {
        missing(3, "part", 0, Works::fresh, (x, n) -> x.operation(n, 't', 0, 1, 1, 100, 0));
        missing(3, "part", 4, Works::busy, (x, n) -> x.operation(n, 't', 0, 1, 1, 100, 0));
        bounds(3, "position", RANGE, 0, 3, 8, 3, Works::busy, (x, n) -> x.operation(0, 't', n, 1, 1, 100, 0));
        bounds(3, "travel", RANGE, 1, 3, 999, 3, Works::busy, (x, n) -> x.operation(0, 't', 0, n, 1, 100, 0));
        bounds(3, "feed", RANGE, 1, 3, 50, 3, Works::busy, (x, n) -> x.operation(0, 't', 0, 1, n, 100, 0));
        bounds(3, "speed", RANGE, 100, 3, 5000, 3, Works::busy, (x, n) -> x.operation(0, 't', 0, 1, 1, n, 0));
        bounds(3, "rooms", RANGE, 0, 3, 255, 3, Works::busy, (x, n) -> x.operation(0, 't', 0, 1, 1, 100, n));
        kinds();
        is(3, "the tenth", 9, () -> Works.nearlyFull().operation(0, 't', 0, 1, 1, 100, 0));
        refused(3, "the eleventh", STATE, Works::full, x -> x.operation(0, 't', 0, 1, 1, 100, 0));
        is(3, "a part for itself is full", 1, () -> Works.full().operation(1, 't', 0, 1, 1, 100, 0));
        refused(3, "part ahead of all others", INDEX, Works::full, x -> x.operation(5, 'x', 9, 0, 0, 0, 256));
        refused(3, "kind ahead of full", RANGE, Works::full, x -> x.operation(0, 'x', 0, 1, 1, 100, 0));
        refused(3, "position ahead of full", RANGE, Works::full, x -> x.operation(0, 't', 9, 1, 1, 100, 0));
        refused(3, "travel ahead of full", RANGE, Works::full, x -> x.operation(0, 't', 0, 0, 1, 100, 0));
        refused(3, "feed ahead of full", RANGE, Works::full, x -> x.operation(0, 't', 0, 1, 51, 100, 0));
        refused(3, "speed ahead of full", RANGE, Works::full, x -> x.operation(0, 't', 0, 1, 1, 99, 0));
        refused(3, "rooms ahead of full", RANGE, Works::full, x -> x.operation(0, 't', 0, 1, 1, 100, -1));
    }

    private static void kinds() {
        for (char kind : "tdhkfc".toCharArray()) {
            is(3, "kind " + kind, 3, () -> Works.busy().operation(0, kind, 0, 1, 1, 100, 0));
        }
        char[] others = {0, ' ', 'b', 'e', 'g', 'i', 'j', 'l', 's', 'u', 'T', 'C', 't' + 256, 65535};
        for (char kind : others) {
            refused(3, "kind of sign " + (int) kind, RANGE, Works::busy, x -> x.operation(0, kind, 0, 1, 1, 100, 0));
        }
    }

    private static void halves() {
        missing(4, "part", 0, Works::fresh, (x, n) -> x.halve(n, 0));
        missing(4, "part", 4, Works::busy, (x, n) -> x.halve(n, 0));
        missing(4, "operation", 3, Works::busy, (x, n) -> x.halve(0, n));
        missing(4, "operation", 0, Works::busy, (x, n) -> x.halve(2, n));
        refused(4, "travel 1", UNSUPPORTED, Works::busy, x -> x.halve(1, 0));
        is(4, "travel 2 with nine", 9, () -> Works.nearlyFull().halve(0, 8));
        refused(4, "travel 2 with ten", STATE, Works::full, x -> x.halve(0, 1));
        refused(4, "travel 10 with ten", STATE, Works::full, x -> x.halve(0, 9));
        refused(4, "travel 1 ahead of ten", UNSUPPORTED, Works::full, x -> x.halve(0, 0));
        missing(4, "ahead of ten, operation", 10, Works::full, (x, n) -> x.halve(0, n));
    }

    private static void operationsAsked() {
        missing(5, "part", 4, Works::busy, (x, n) -> x.travel(n, 0));
        missing(5, "operation", 3, Works::busy, (x, n) -> x.travel(0, n));
        missing(5, "operation", 10, Works::full, (x, n) -> x.travel(0, n));
        missing(6, "part", 4, Works::busy, (x, n) -> x.time(n, 0));
        missing(6, "operation", 3, Works::busy, (x, n) -> x.time(0, n));
        missing(6, "operation", 10, Works::full, (x, n) -> x.time(0, n));
        is(5, "the last one", 10, () -> Works.full().travel(0, 9));
        is(6, "the last one", 6, () -> Works.full().time(0, 9));
        missing(5, "part", 5, Works::full, (x, n) -> x.travel(n, 0));
        missing(6, "part", 5, Works::full, (x, n) -> x.time(n, 0));
    }

    private static void limits() {
        bounds(7, "limit of rises", RANGE, 1, 30, 99, 30, Works::busy, (x, n) -> x.setLimits(n, 40));
        bounds(7, "limit of returns", RANGE, 1, 30, 99, 30, Works::busy, (x, n) -> x.setLimits(20, n));
        refused(7, "both", RANGE, Works::busy, x -> x.setLimits(0, 100));
    }

    private static void laying() {
        missing(8, "part", 4, Works::busy, (x, n) -> x.lay(n, 0, 0, 40, 0));
        missing(8, "operation", 3, Works::busy, (x, n) -> x.lay(0, n, 0, 40, 0));
        missing(8, "operation", 10, Works::full, (x, n) -> x.lay(0, n, 0, 40, 0));
        // A return takes one at least, so the last hundredth, a rise of 100 and a dwell of 99 never end in time.
        bounds(8, "begin", RANGE, 0, 8, 99, UNSUPPORTED, Works::busy, (x, n) -> x.lay(0, 0, n, 4, 0));
        bounds(8, "rise", RANGE, 1, UNSUPPORTED, 100, UNSUPPORTED, Works::busy, (x, n) -> x.lay(0, 0, 0, n, 0));
        bounds(8, "dwell", RANGE, 0, 8, 99, UNSUPPORTED, Works::busy, (x, n) -> x.lay(0, 0, 0, 4, n));
        refused(8, "ends too late by begin", UNSUPPORTED, Works::busy, x -> x.lay(0, 0, 93, 4, 0));
        is(8, "ends in time by begin", 100, () -> Works.busy().lay(0, 0, 92, 4, 0));
        refused(8, "ends too late by rise", UNSUPPORTED, Works::busy, x -> x.lay(0, 0, 0, 97, 0));
        is(8, "ends in time by rise", 100, () -> Works.busy().lay(0, 0, 0, 96, 0));
        refused(8, "ends too late by dwell", UNSUPPORTED, Works::busy, x -> x.lay(0, 0, 0, 4, 93));
        is(8, "ends in time by dwell", 100, () -> Works.busy().lay(0, 0, 0, 4, 92));
        refused(8, "too steep", UNSUPPORTED, Works::busy, x -> x.lay(0, 0, 0, 3, 0));
        refused(8, "too steep and too late", UNSUPPORTED, Works::busy, x -> x.lay(0, 0, 98, 3, 9));
        refused(8, "too steep, and not laid yet", UNSUPPORTED, Works::nearlyLaid, x -> x.lay(0, 0, 0, 1, 0));
        refused(8, "part ahead of ranges", INDEX, Works::busy, x -> x.lay(4, 0, 100, 0, 100));
        refused(8, "operation ahead of ranges", INDEX, Works::busy, x -> x.lay(0, 3, -1, 101, -1));
        refused(8, "begin ahead of too steep", RANGE, Works::busy, x -> x.lay(0, 0, 100, 1, 0));
        refused(8, "rise ahead of too late", RANGE, Works::busy, x -> x.lay(0, 0, 99, 101, 0));
        refused(8, "dwell ahead of too steep", RANGE, Works::busy, x -> x.lay(0, 0, 0, 1, 100));
    }

    private static void advancing() {
        missing(9, "part", 4, Works::busy, (x, n) -> x.advance(n, 0, 0));
        missing(9, "operation", 3, Works::busy, (x, n) -> x.advance(0, n, 0));
        bounds(9, "hundredth", RANGE, 0, 10, 99, 0, Works::busy, (x, n) -> x.advance(0, 0, n));
        refused(9, "not laid, in the first", MISSING, Works::busy, x -> x.advance(1, 0, 0));
        refused(9, "not laid, in the last", MISSING, Works::busy, x -> x.advance(1, 0, 99));
        refused(9, "range ahead of not laid", RANGE, Works::busy, x -> x.advance(1, 0, 100));
        refused(9, "range ahead of not laid, below", RANGE, Works::busy, x -> x.advance(1, 0, -1));
        refused(9, "part ahead of range", INDEX, Works::busy, x -> x.advance(4, 0, 100));
        refused(9, "operation ahead of range", INDEX, Works::busy, x -> x.advance(0, 3, -1));
    }

    private static void collisions() {
        missing(10, "part", 0, Works::fresh, (x, n) -> x.collisions(n));
        missing(10, "part", 4, Works::busy, (x, n) -> x.collisions(n));
        missing(11, "part", 4, Works::busy, (x, n) -> x.collisionAt(n, 0));
        missing(11, "part ahead of not so many", 4, Works::busy, (x, n) -> x.collisionAt(n, n));
        int[] indexes = {0, -1, Integer.MIN_VALUE, Integer.MAX_VALUE};
        for (int index : indexes) {
            refused(11, "of none the index " + index, MISSING, Works::busy, x -> x.collisionAt(0, index));
        }
        is(11, "of 100 the last", 99, () -> Works.colliding().collisionAt(0, 99));
        refused(11, "of 100 the next", MISSING, Works::colliding, x -> x.collisionAt(0, 100));
        refused(11, "of 100 the one ahead", MISSING, Works::colliding, x -> x.collisionAt(0, -1));
    }

    private static void pressing() {
        missing(12, "part", 0, Works::fresh, (x, n) -> x.press(n));
        missing(12, "part", 4, Works::busy, (x, n) -> x.press(n));
        refused(12, "one of the slides would not end in time", UNSUPPORTED, Works::colliding, x -> x.press(0));
        refused(12, "one of the turret would not, those ahead of it would", UNSUPPORTED, Works::crowded,
                x -> x.press(0));
        missing(13, "part", 4, Works::busy, (x, n) -> x.begins(n, 0));
        missing(13, "operation", 3, Works::busy, (x, n) -> x.begins(0, n));
        refused(13, "not laid", MISSING, Works::busy, x -> x.begins(1, 0));
    }

    private static void cycles() {
        missing(14, "part", 4, Works::busy, (x, n) -> x.cycle(n));
        missing(15, "part", 4, Works::busy, (x, n) -> x.slowest(n));
        missing(42, "part", 4, Works::busy, (x, n) -> x.paysFrom(n));
        refused(14, "no operations", MISSING, Works::busy, x -> x.cycle(2));
        refused(15, "no operations", MISSING, Works::busy, x -> x.slowest(2));
        refused(42, "no operations", MISSING, Works::busy, x -> x.paysFrom(2));
        refused(14, "one not laid", MISSING, Works::busy, x -> x.cycle(1));
        refused(15, "one not laid", MISSING, Works::busy, x -> x.slowest(1));
        refused(42, "one not laid", MISSING, Works::busy, x -> x.paysFrom(1));
        refused(14, "colliding", MISSING, Works::colliding, x -> x.cycle(0));
        refused(15, "colliding", MISSING, Works::colliding, x -> x.slowest(0));
        refused(42, "colliding", MISSING, Works::colliding, x -> x.paysFrom(0));
    }

    private static void stations() {
        missing(16, "part", 4, Works::busy, (x, n) -> x.station(n, 0, 0));
        missing(16, "operation", 3, Works::busy, (x, n) -> x.station(0, n, 0));
        bounds(16, "station", RANGE, 0, 5, 5, 5, Works::busy, (x, n) -> x.station(0, 1, n));
        refused(16, "part ahead of station", INDEX, Works::busy, x -> x.station(4, 0, 6));
        refused(16, "operation ahead of station", INDEX, Works::busy, x -> x.station(0, 3, -1));
        missing(17, "part", 4, Works::busy, (x, n) -> x.cycleOfSix(n));
        missing(18, "part", 4, Works::busy, (x, n) -> x.balance(n));
        refused(17, "no operations", MISSING, Works::busy, x -> x.cycleOfSix(2));
        refused(18, "no operations", MISSING, Works::busy, x -> x.balance(2));
    }

    private static void cams() {
        bounds(19, "radius", RANGE, 1000, 3, 9999, 3, Works::busy, (x, n) -> x.cam(n));
        is(19, "the twelfth", 11, () -> Works.nearlyFull().cam(1000));
        refused(19, "the thirteenth", STATE, Works::full, x -> x.cam(1000));
        refused(19, "range ahead of full", RANGE, Works::full, x -> x.cam(999));
        refused(19, "range ahead of full, above", RANGE, Works::full, x -> x.cam(10000));
        missing(24, "cam", 0, Works::fresh, (x, n) -> x.radius(n));
        missing(24, "cam", 3, Works::busy, (x, n) -> x.radius(n));
        missing(24, "cam", 12, Works::full, (x, n) -> x.radius(n));
        is(24, "the last one", 1011, () -> Works.full().radius(11));
    }

    private static void ratios() {
        bounds(20, "position", INDEX, 0, 3, 8, 1, Works::busy, (x, n) -> x.setRatio(n, 4));
        bounds(20, "ratio", RANGE, 1, 3, 4, 3, Works::busy, (x, n) -> x.setRatio(0, n));
        refused(20, "position ahead of ratio", INDEX, Works::busy, x -> x.setRatio(9, 0));
        refused(20, "position ahead of ratio, below", INDEX, Works::busy, x -> x.setRatio(-1, 5));
    }

    private static void camsServing() {
        missing(21, "part", 4, Works::busy, (x, n) -> x.camRise(n, 0));
        missing(21, "operation", 3, Works::busy, (x, n) -> x.camRise(0, n));
        refused(21, "not laid", MISSING, Works::busy, x -> x.camRise(1, 0));
        missing(22, "part", 4, Works::busy, (x, n) -> x.camFor(n, 0));
        missing(22, "operation", 3, Works::busy, (x, n) -> x.camFor(0, n));
        refused(22, "not laid", MISSING, Works::busy, x -> x.camFor(1, 0));
        refused(22, "no cams", UNSUPPORTED, Works::formed, x -> x.camFor(0, 0));
        refused(22, "all too thin", UNSUPPORTED, () -> Works.withCam(1000), x -> x.camFor(0, 0));
        refused(22, "not laid ahead of no cams", MISSING, Works::nearlyLaid, x -> x.camFor(0, 0));
        refused(22, "operation ahead of no cams", INDEX, Works::formed, x -> x.camFor(0, 1));
        missing(23, "cam", 3, Works::busy, (x, n) -> x.cutCam(n, 0, 0));
        missing(23, "part", 4, Works::busy, (x, n) -> x.cutCam(0, n, 0));
        missing(23, "operation", 3, Works::busy, (x, n) -> x.cutCam(0, 0, n));
        refused(23, "not laid", MISSING, Works::busy, x -> x.cutCam(0, 1, 0));
        refused(23, "too thin by one", UNSUPPORTED, () -> Works.withCam(1000), x -> x.cutCam(0, 0, 0));
        is(23, "just thick", 800, () -> Works.withCam(1001).cutCam(0, 0, 0));
        refused(23, "cam ahead of not laid", INDEX, Works::busy, x -> x.cutCam(3, 1, 0));
        refused(23, "operation ahead of too thin", INDEX, () -> Works.withCam(1000), x -> x.cutCam(0, 0, 2));
        refused(23, "not laid ahead of too thin", MISSING, () -> Works.withCam(1000), x -> x.cutCam(0, 0, 1));
    }

    private static void bars() {
        bounds(25, "diameter", RANGE, 20, 7, 400, 7, Works::busy, (x, n) -> x.bring(n, 7, 1500));
        bounds(25, "bars", RANGE, 1, 4, 99, 102, Works::busy, (x, n) -> x.bring(60, n, 1500));
        bounds(25, "length", RANGE, 1000, 4, 40000, 4, Works::busy, (x, n) -> x.bring(60, 1, n));
        is(25, "999 of them", 999, () -> Works.nearlyFull().bring(60, 9, 1500));
        refused(25, "1000 of them", UNSUPPORTED, Works::nearlyFull, x -> x.bring(60, 10, 1500));
        refused(25, "1000 of them, one by one", UNSUPPORTED, Works::full, x -> x.bring(60, 1, 1500));
        is(25, "a diameter for itself is full", 99, () -> Works.full().bring(61, 99, 1500));
        refused(25, "bars ahead of too many", RANGE, Works::full, x -> x.bring(60, 100, 1500));
        refused(25, "length ahead of too many", RANGE, Works::full, x -> x.bring(60, 99, 999));
        missing(26, "part", 4, Works::busy, (x, n) -> x.piecesOfBar(n));
        refused(26, "no bars were brought", MISSING, Works::formed, x -> x.piecesOfBar(0));
        refused(26, "part ahead of no bars", INDEX, Works::formed, x -> x.piecesOfBar(1));
    }

    private static void runs() {
        missing(29, "part", 4, Works::busy, (x, n) -> x.run(n, 1));
        bounds(29, "pieces", RANGE, 1, 1, 999, 17, Works::busy, (x, n) -> x.run(0, n));
        refused(29, "stopped", STATE, Works::busyAndStopped, x -> x.run(0, 1));
        refused(29, "one not laid", UNSUPPORTED, Works::busy, x -> x.run(1, 1));
        refused(29, "no operations", UNSUPPORTED, Works::busy, x -> x.run(2, 1));
        refused(29, "colliding", UNSUPPORTED, Works::colliding, x -> x.run(0, 1));
        refused(29, "no cycle any more", UNSUPPORTED, Works::halvedBehindItsRun, x -> x.run(3, 1));
        refused(29, "part ahead of range", INDEX, Works::busy, x -> x.run(4, 0));
        refused(29, "part ahead of stopped", INDEX, Works::busyAndStopped, x -> x.run(-1, 1));
        refused(29, "part ahead of all", INDEX, Works::busyAndStopped, x -> x.run(4, 1000));
        refused(29, "range ahead of stopped", RANGE, Works::busyAndStopped, x -> x.run(0, 0));
        refused(29, "range ahead of no cycle", RANGE, Works::busy, x -> x.run(1, 1000));
        refused(29, "range ahead of both", RANGE, Works::busyAndStopped, x -> x.run(1, -1));
        refused(29, "stopped ahead of no cycle", STATE, Works::busyAndStopped, x -> x.run(2, 1));
    }

    private static void wear() {
        bounds(30, "position", INDEX, 0, 1, 8, 1, Works::busy, (x, n) -> x.setWear(n, 5));
        bounds(30, "wear", RANGE, 0, 3, 20, 3, Works::busy, (x, n) -> x.setWear(6, n));
        refused(30, "position ahead of wear", INDEX, Works::busy, x -> x.setWear(9, 21));
        refused(30, "position ahead of wear, below", INDEX, Works::busy, x -> x.setWear(-1, -1));
        // 28 pieces since the stop leave 15 of the 20.
        bounds(32, "position", INDEX, 0, 15 + 8 + 4, 8, 15 + 20, Works::busy, (x, n) -> x.error(n));
    }

    private static void corrections() {
        bounds(31, "position", INDEX, 0, 2, 8, 5, Works::busy, (x, n) -> x.correct(n, n == 0 ? 5 : -5));
        bounds(31, "steps", RANGE, -200, 200, 200, 197, Works::busy, (x, n) -> x.correct(0, n));
        refused(31, "position ahead of steps", INDEX, Works::busy, x -> x.correct(9, 201));
        refused(31, "position ahead of steps, below", INDEX, Works::busy, x -> x.correct(-1, -201));
    }

    private static void grinding() {
        bounds(33, "position", INDEX, 0, UNSUPPORTED, 8, 900, Works::busy, (x, n) -> x.grind(n));
        refused(33, "no operation there forms", UNSUPPORTED, Works::busy, x -> x.grind(7));
        refused(33, "no operation there", UNSUPPORTED, Works::busy, x -> x.grind(3));
        refused(33, "no operations at all", UNSUPPORTED, Works::fresh, x -> x.grind(0));
        is(33, "a face of 400", 300, () -> Works.nearlyFull().grind(6));
        refused(33, "a face of 300", UNSUPPORTED, Works::full, x -> x.grind(6));
    }

    private static void tolerances() {
        missing(34, "part", 4, Works::busy, (x, n) -> x.setTolerance(n, 0, 40));
        missing(34, "operation", 3, Works::busy, (x, n) -> x.setTolerance(0, n, 40));
        bounds(34, "tolerance", RANGE, 1, 33, 500, 33, Works::busy, (x, n) -> x.setTolerance(0, 0, n));
        refused(34, "part ahead of tolerance", INDEX, Works::busy, x -> x.setTolerance(4, 0, 0));
        refused(34, "operation ahead of tolerance", INDEX, Works::busy, x -> x.setTolerance(0, 3, 501));
        missing(35, "part", 4, Works::busy, (x, n) -> x.good(n));
        missing(36, "part", 4, Works::busy, (x, n) -> x.bad(n));
        missing(41, "part", 4, Works::busy, (x, n) -> x.chips(n));
    }

    private static void lots() {
        missing(37, "part", 4, Works::busy, (x, n) -> x.isAccepted(n, 1, 0));
        bounds(37, "sample", RANGE, 1, true, 999, true, Works::busy, (x, n) -> x.isAccepted(3, n, 999));
        bounds(37, "most", RANGE, 0, true, 999, true, Works::busy, (x, n) -> x.isAccepted(3, 1, n));
        refused(37, "no piece of it", MISSING, Works::busy, x -> x.isAccepted(2, 1, 0));
        refused(37, "no piece at all", MISSING, Works::formed, x -> x.isAccepted(0, 999, 999));
        refused(37, "part ahead of ranges", INDEX, Works::busy, x -> x.isAccepted(4, 0, -1));
        refused(37, "part ahead of no piece", INDEX, Works::formed, x -> x.isAccepted(1, 1, 0));
        refused(37, "sample ahead of no piece", RANGE, Works::busy, x -> x.isAccepted(2, 0, 0));
        refused(37, "most ahead of no piece", RANGE, Works::busy, x -> x.isAccepted(2, 1, 1000));
    }

    private static void ordersAdded() {
        missing(38, "part", 0, Works::fresh, (x, n) -> x.order(n, 1));
        missing(38, "part", 4, Works::busy, (x, n) -> x.order(n, 1));
        bounds(38, "pieces", RANGE, 1, 3, 9999, 3, Works::busy, (x, n) -> x.order(0, n));
        is(38, "the eighth", 7, () -> Works.nearlyFull().order(0, 1));
        refused(38, "the ninth", STATE, Works::full, x -> x.order(0, 1));
        refused(38, "part ahead of range", INDEX, Works::busy, x -> x.order(4, 0));
        refused(38, "part ahead of full", INDEX, Works::full, x -> x.order(5, 1));
        refused(38, "range ahead of full", RANGE, Works::full, x -> x.order(0, 0));
        refused(38, "range ahead of full, above", RANGE, Works::full, x -> x.order(0, 10000));
    }

    private static void plans() {
        missing(39, "order", 0, Works::fresh, (x, n) -> x.machineOf(n));
        missing(39, "order", 3, Works::busy, (x, n) -> x.machineOf(n));
        missing(39, "order", 8, Works::full, (x, n) -> x.machineOf(n));
        missing(40, "order", 0, Works::fresh, (x, n) -> x.ends(n));
        missing(40, "order", 3, Works::busy, (x, n) -> x.ends(n));
        missing(40, "order", 8, Works::full, (x, n) -> x.ends(n));
        is(39, "all ahead have cycles", 0, () -> Works.full().machineOf(6));
        refused(39, "its part has no cycle", MISSING, Works::full, x -> x.machineOf(7));
        refused(40, "its part has no cycle", MISSING, Works::full, x -> x.ends(7));
        refused(39, "one ahead has none", MISSING, Works::orderedAhead, x -> x.machineOf(2));
        refused(40, "one ahead has none", MISSING, Works::orderedAhead, x -> x.ends(2));
        refused(39, "order ahead of no cycle", INDEX, Works::orderedAhead, x -> x.machineOf(3));
        refused(40, "order ahead of no cycle", INDEX, Works::orderedAhead, x -> x.ends(3));
    }

    private static void figures() {
        refused(44, "no pieces", ARITHMETIC, Works::formed, x -> x.goodShare());
        refused(45, "no cams", ARITHMETIC, Works::formed, x -> x.meanRadius());
        refused(44, "no parts", ARITHMETIC, Works::fresh, x -> x.goodShare());
    }
}
