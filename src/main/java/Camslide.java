import java.util.NoSuchElementException;

/** Automatics that turn bars into small parts by cams. */
public final class Camslide {
    private static final int MOST_PARTS = 5;
    private static final int MOST_OPERATIONS = 10;
    private static final int MOST_CAMS = 12;
    private static final int MOST_ORDERS = 8;
    private static final int MOST_BARS = 999;
    private static final int MOST_PIECES = 999;
    private static final int LEAST_DIAMETER = 20;
    private static final int MOST_DIAMETER = 400;
    private static final int POSITIONS = 9;
    private static final int TURRET_STATIONS = 6;
    private static final int TURRET_ROOM = 256;
    private static final int SPINDLES = 6;
    private static final int MACHINES = 3;
    private static final int HUNDREDTHS = 100;
    private static final int LEAST_RADIUS = 800;
    private static final int LEAST_FACE = 300;
    private static final int FIRST_TOLERANCE = 50;

    private final Part[] parts = new Part[MOST_PARTS];
    private int partCount;
    private final Cam[] cams = new Cam[MOST_CAMS];
    private int camCount;
    private final Order[] orders = new Order[MOST_ORDERS];
    private int orderCount;
    private final Tool[] tools = new Tool[POSITIONS];
    private final Layout layout = new Layout();
    private final Stock stock = new Stock();
    private final Plan plan = new Plan();
    private int riseLimit = 20;
    private int backLimit = 40;
    private boolean isMachineStopped;
    private int piecesSinceStop;

    public Camslide() {
        for (int i = 0; i < parts.length; i++) {
            parts[i] = new Part();
        }
        for (int i = 0; i < cams.length; i++) {
            cams[i] = new Cam();
        }
        for (int i = 0; i < orders.length; i++) {
            orders[i] = new Order();
        }
        for (int i = 0; i < tools.length; i++) {
            tools[i] = new Tool();
        }
    }

    // Parts and operations

    public int part(int diameter, int length) throws IllegalArgumentException, IllegalStateException {
        requireRange(diameter, LEAST_DIAMETER, MOST_DIAMETER);
        requireRange(length, 10, 999);
        if (partCount >= parts.length) {
            throw new IllegalStateException("there are 5 parts");
        }
        int number = partCount;
        parts[number].diameter = diameter;
        parts[number].length = length;
        partCount++;
        return number;
    }

    public int operation(int part, char kind, int position, int travel, int feed, int speed, int rooms)
            throws IndexOutOfBoundsException, IllegalArgumentException, IllegalStateException {
        Part owner = partAt(part);
        if (!isKind(kind)) {
            throw new IllegalArgumentException("no such kind");
        }
        requireRange(position, 0, POSITIONS - 1);
        requireRange(travel, 1, 999);
        requireRange(feed, 1, 50);
        requireRange(speed, 100, 5000);
        requireRange(rooms, 0, 255);
        requireRoomForOperation(owner);
        int number = owner.addOperation();
        owner.operations[number].define(kind, position, travel, feed, speed, rooms);
        return number;
    }

    public int halve(int part, int operation)
            throws IndexOutOfBoundsException, UnsupportedOperationException, IllegalStateException {
        Part owner = partAt(part);
        Operation cut = operationAt(part, operation);
        if (cut.travel <= 1) {
            throw new UnsupportedOperationException("too short for two cuts");
        }
        requireRoomForOperation(owner);
        int lesserHalf = cut.travel / 2;
        int number = owner.addOperation();
        Operation half = owner.operations[number];
        half.define(cut.kind, cut.position, lesserHalf, cut.feed, cut.speed, cut.rooms);
        half.tolerance = cut.tolerance;
        cut.travel -= lesserHalf;
        cut.isLaid = false;
        return number;
    }

    public int travel(int part, int operation) throws IndexOutOfBoundsException {
        return operationAt(part, operation).travel;
    }

    public int time(int part, int operation) throws IndexOutOfBoundsException {
        return operationAt(part, operation).duration();
    }

    // Layout

    public int setLimits(int rise, int back) throws IllegalArgumentException {
        requireRange(rise, 1, 99);
        requireRange(back, 1, 99);
        int before = riseLimit;
        riseLimit = rise;
        backLimit = back;
        return before;
    }

    public int lay(int part, int operation, int begin, int rise, int dwell)
            throws IndexOutOfBoundsException, IllegalArgumentException, UnsupportedOperationException {
        Operation laid = operationAt(part, operation);
        requireRange(begin, 0, HUNDREDTHS - 1);
        requireRange(rise, 1, HUNDREDTHS);
        requireRange(dwell, 0, HUNDREDTHS - 1);
        int back = quotientUp(laid.travel, backLimit);
        if (laid.travel > rise * riseLimit) {
            throw new UnsupportedOperationException("too steep");
        }
        if (begin + rise + dwell + back > HUNDREDTHS) {
            throw new UnsupportedOperationException("ends too late");
        }
        laid.isLaid = true;
        laid.begin = begin;
        laid.rise = rise;
        laid.dwell = dwell;
        laid.back = back;
        return laid.end();
    }

    public int advance(int part, int operation, int hundredth)
            throws IndexOutOfBoundsException, IllegalArgumentException, NoSuchElementException {
        Operation asked = operationAt(part, operation);
        requireRange(hundredth, 0, HUNDREDTHS - 1);
        requireLaid(asked);
        return asked.advanceIn(hundredth);
    }

    public int collisions(int part) throws IndexOutOfBoundsException {
        return layout.countHits(partAt(part));
    }

    public int collisionAt(int part, int index) throws IndexOutOfBoundsException, NoSuchElementException {
        int hundredth = layout.hitAt(partAt(part), index);
        if (hundredth < 0) {
            throw new NoSuchElementException("not so many collisions");
        }
        return hundredth;
    }

    public int press(int part) throws IndexOutOfBoundsException, UnsupportedOperationException {
        int end = layout.pressTogether(partAt(part));
        if (end < 0) {
            throw new UnsupportedOperationException("an operation would end too late");
        }
        return end;
    }

    public int begins(int part, int operation) throws IndexOutOfBoundsException, NoSuchElementException {
        Operation asked = operationAt(part, operation);
        requireLaid(asked);
        return asked.begin;
    }

    public int cycle(int part) throws IndexOutOfBoundsException, NoSuchElementException {
        Part asked = partAt(part);
        return asked.operations[slowestOf(asked)].durationOfTurn();
    }

    public int slowest(int part) throws IndexOutOfBoundsException, NoSuchElementException {
        return slowestOf(partAt(part));
    }

    // Six spindles

    public int station(int part, int operation, int station)
            throws IndexOutOfBoundsException, IllegalArgumentException {
        Operation moved = operationAt(part, operation);
        requireRange(station, 0, SPINDLES - 1);
        int before = moved.station;
        moved.station = station;
        return before;
    }

    public int cycleOfSix(int part) throws IndexOutOfBoundsException, NoSuchElementException {
        Part asked = partAt(part);
        requireOperations(asked);
        return asked.durationOnSix();
    }

    public int balance(int part) throws IndexOutOfBoundsException, NoSuchElementException {
        Part balanced = partAt(part);
        requireOperations(balanced);
        balanced.spreadOverStations();
        return balanced.durationOnSix();
    }

    // Cams

    public int cam(int radius) throws IllegalArgumentException, IllegalStateException {
        requireRange(radius, 1000, 9999);
        if (camCount >= cams.length) {
            throw new IllegalStateException("there are 12 cams");
        }
        int number = camCount;
        cams[number].radius = radius;
        camCount++;
        return number;
    }

    public int setRatio(int position, int ratio) throws IndexOutOfBoundsException, IllegalArgumentException {
        Tool tool = toolAt(position);
        requireRange(ratio, 1, 4);
        int before = tool.ratio;
        tool.ratio = ratio;
        return before;
    }

    public int camRise(int part, int operation) throws IndexOutOfBoundsException, NoSuchElementException {
        Operation served = operationAt(part, operation);
        requireLaid(served);
        return liftFor(served);
    }

    public int camFor(int part, int operation)
            throws IndexOutOfBoundsException, NoSuchElementException, UnsupportedOperationException {
        Operation served = operationAt(part, operation);
        requireLaid(served);
        int number = camWithShape(served);
        if (number < 0) {
            number = camToCut(served);
        }
        if (number < 0) {
            throw new UnsupportedOperationException("no such cam");
        }
        return number;
    }

    public int cutCam(int cam, int part, int operation)
            throws IndexOutOfBoundsException, NoSuchElementException, UnsupportedOperationException {
        Cam cut = camAt(cam);
        Operation served = operationAt(part, operation);
        requireLaid(served);
        int lift = liftFor(served);
        if (cut.hasShape(served, lift)) {
            return cut.radius;
        }
        if (!cut.canBeCut(lift)) {
            throw new UnsupportedOperationException("it would be too thin");
        }
        cut.shape(served, lift);
        return cut.radius;
    }

    public int radius(int cam) throws IndexOutOfBoundsException {
        return camAt(cam).radius;
    }

    // Bars, runs and drift

    public int bring(int diameter, int bars, int length)
            throws IllegalArgumentException, UnsupportedOperationException {
        requireRange(diameter, LEAST_DIAMETER, MOST_DIAMETER);
        requireRange(bars, 1, 99);
        requireRange(length, 1000, 40000);
        if (stock.barsOf(diameter) + bars > MOST_BARS) {
            throw new UnsupportedOperationException("there would be more than 999");
        }
        stock.add(diameter, bars, length);
        return stock.barsOf(diameter);
    }

    public int piecesOfBar(int part) throws IndexOutOfBoundsException, NoSuchElementException {
        Part asked = partAt(part);
        if (!stock.wasBrought(asked.diameter)) {
            throw new NoSuchElementException("no such bars were brought");
        }
        return stock.yieldOfBar(asked);
    }

    public int bars(int diameter) {
        return stock.barsOf(diameter);
    }

    public boolean stop(boolean isStopped) {
        boolean wasStopped = isMachineStopped;
        isMachineStopped = isStopped;
        if (isStopped) {
            piecesSinceStop = 0;
        }
        return wasStopped;
    }

    public int run(int part, int pieces)
            throws IndexOutOfBoundsException, IllegalArgumentException, IllegalStateException,
            UnsupportedOperationException {
        Part made = partAt(part);
        requireRange(pieces, 1, MOST_PIECES);
        if (isMachineStopped) {
            throw new IllegalStateException("the machine is stopped");
        }
        if (!layout.hasCycle(made)) {
            throw new UnsupportedOperationException("no cycle");
        }
        int count = stock.take(part, made, pieces);
        makePieces(made, count);
        return count;
    }

    public int setWear(int position, int wear) throws IndexOutOfBoundsException, IllegalArgumentException {
        Tool tool = toolAt(position);
        requireRange(wear, 0, 20);
        int before = tool.wearOfPiece;
        tool.wearOfPiece = wear;
        return before;
    }

    public int correct(int position, int steps) throws IndexOutOfBoundsException, IllegalArgumentException {
        Tool tool = toolAt(position);
        requireRange(steps, -200, 200);
        return tool.moveBy(steps);
    }

    public int error(int position) throws IndexOutOfBoundsException {
        return toolAt(position).errorWhenOffBy(coldness());
    }

    public int grind(int position) throws IndexOutOfBoundsException, UnsupportedOperationException {
        Tool tool = toolAt(position);
        if (!isFormedAt(position)) {
            throw new UnsupportedOperationException("no operation there forms");
        }
        if (tool.face - 100 < LEAST_FACE) {
            throw new UnsupportedOperationException("its face would be too short");
        }
        tool.face -= 100;
        tool.wear = 0;
        return tool.face;
    }

    // Gauges

    public int setTolerance(int part, int operation, int tolerance)
            throws IndexOutOfBoundsException, IllegalArgumentException {
        Operation gauged = operationAt(part, operation);
        requireRange(tolerance, 1, 500);
        int before = gauged.tolerance;
        gauged.tolerance = tolerance;
        return before;
    }

    public int good(int part) throws IndexOutOfBoundsException {
        return partAt(part).goodPieces;
    }

    public int bad(int part) throws IndexOutOfBoundsException {
        return partAt(part).badPieces;
    }

    public boolean isAccepted(int part, int sample, int most)
            throws IndexOutOfBoundsException, IllegalArgumentException, NoSuchElementException {
        Part gauged = partAt(part);
        requireRange(sample, 1, MOST_PIECES);
        requireRange(most, 0, 999);
        if (gauged.lotSize < 1) {
            throw new NoSuchElementException("no piece of it was made");
        }
        return gauged.badInSample(sample) <= most;
    }

    // Plans, chips and others

    public int order(int part, int pieces)
            throws IndexOutOfBoundsException, IllegalArgumentException, IllegalStateException {
        partAt(part);
        requireRange(pieces, 1, 9999);
        if (orderCount >= orders.length) {
            throw new IllegalStateException("there are 8 orders");
        }
        int number = orderCount;
        orders[number].part = part;
        orders[number].pieces = pieces;
        orderCount++;
        return number;
    }

    public int machineOf(int order) throws IndexOutOfBoundsException, NoSuchElementException {
        planUntil(order);
        return plan.machine;
    }

    public long ends(int order) throws IndexOutOfBoundsException, NoSuchElementException {
        planUntil(order);
        return (plan.end + 99) / 100;
    }

    public long chips(int part) throws IndexOutOfBoundsException {
        return partAt(part).chipsOfPiece();
    }

    public int paysFrom(int part) throws IndexOutOfBoundsException, NoSuchElementException {
        // Each piece saves two cycles, and these must make up for the longer preparation.
        int hundredthsBehind = (24000 - 3600) * 100;
        Part asked = partAt(part);
        int saved = 2 * asked.operations[slowestOf(asked)].durationOfTurn();
        return quotientUp(hundredthsBehind, saved);
    }

    // Figures

    public long checksum() {
        long sum = 0;
        for (int i = 0; i < partCount; i++) {
            sum = parts[i].addToChecksum(sum);
        }
        return sum;
    }

    public float goodShare() throws ArithmeticException {
        int goodPieces = 0;
        int allPieces = 0;
        for (int i = 0; i < partCount; i++) {
            goodPieces += parts[i].goodPieces;
            allPieces += parts[i].goodPieces + parts[i].badPieces;
        }
        if (allPieces == 0) {
            throw new ArithmeticException("no pieces were made");
        }
        return (float) goodPieces / (float) allPieces;
    }

    public double meanRadius() throws ArithmeticException {
        if (camCount == 0) {
            throw new ArithmeticException("there are no cams");
        }
        int sum = 0;
        for (int i = 0; i < camCount; i++) {
            sum += cams[i].radius;
        }
        return (double) sum / (double) camCount;
    }

    public boolean isSound() {
        for (int i = 0; i < partCount; i++) {
            if (!parts[i].endsInTime()) {
                return false;
            }
        }
        for (int i = 0; i < camCount; i++) {
            if (cams[i].radius < LEAST_RADIUS) {
                return false;
            }
        }
        for (int i = 0; i < tools.length; i++) {
            if (tools[i].face < LEAST_FACE) {
                return false;
            }
        }
        return true;
    }

    // What is looked at ahead of a call

    private static void requireRange(int number, int least, int most) {
        if (number < least || number > most) {
            throw new IllegalArgumentException("a number is out of range");
        }
    }

    private static void requireLaid(Operation operation) {
        if (!operation.isLaid) {
            throw new NoSuchElementException("it is not laid");
        }
    }

    private static void requireOperations(Part part) {
        if (part.count < 1) {
            throw new NoSuchElementException("it has no operations");
        }
    }

    private static void requireRoomForOperation(Part part) {
        if (part.count >= part.operations.length) {
            throw new IllegalStateException("it has 10 operations");
        }
    }

    private Part partAt(int part) {
        if (part < 0 || part >= partCount) {
            throw new IndexOutOfBoundsException("no such part");
        }
        return parts[part];
    }

    private Operation operationAt(int part, int operation) {
        Part owner = partAt(part);
        if (operation < 0 || operation >= owner.count) {
            throw new IndexOutOfBoundsException("no such operation");
        }
        return owner.operations[operation];
    }

    private Cam camAt(int cam) {
        if (cam < 0 || cam >= camCount) {
            throw new IndexOutOfBoundsException("no such cam");
        }
        return cams[cam];
    }

    private Tool toolAt(int position) {
        if (position < 0 || position >= tools.length) {
            throw new IndexOutOfBoundsException("no such position");
        }
        return tools[position];
    }

    private static boolean isKind(char kind) {
        return kind == 't' || kind == 'd' || kind == 'h' || kind == 'k' || kind == 'f' || kind == 'c';
    }

    // What several calls share

    private static int quotientUp(int number, int divisor) {
        return divisor < 1 ? 0 : (number + divisor - 1) / divisor;
    }

    private static int quotientDown(int number, int divisor) {
        return divisor < 1 ? 0 : number / divisor;
    }

    private int slowestOf(Part part) {
        if (!layout.hasCycle(part)) {
            throw new NoSuchElementException("it has no cycle");
        }
        return part.slowestOperation();
    }

    private int liftFor(Operation operation) {
        return quotientUp(operation.travel, toolAt(operation.position).ratio);
    }

    private int camWithShape(Operation served) {
        int lift = liftFor(served);
        for (int i = 0; i < camCount; i++) {
            if (cams[i].hasShape(served, lift)) {
                return i;
            }
        }
        return -1;
    }

    private int camToCut(Operation served) {
        int lift = liftFor(served);
        int best = -1;
        for (int i = 0; i < camCount; i++) {
            if (cams[i].canBeCut(lift) && (best < 0 || cams[i].radius < cams[best].radius)) {
                best = i;
            }
        }
        return best;
    }

    private int coldness() {
        return Math.max(0, 20 - piecesSinceStop / 5);
    }

    private void makePieces(Part part, int count) {
        if (count < 1) {
            return;
        }
        int positions = part.positionsUsed();
        part.lotSize = 0;
        for (int i = 0; i < count; i++) {
            wearTools(positions);
            piecesSinceStop++;
            part.addPiece(isPieceGood(part));
        }
    }

    private void wearTools(int positions) {
        for (int i = 0; i < tools.length; i++) {
            if ((positions >> i & 1) == 1) {
                tools[i].wear += tools[i].wearOfPiece;
            }
        }
    }

    private boolean isPieceGood(Part part) {
        int offBy = coldness();
        for (int i = 0; i < part.count; i++) {
            Operation gauged = part.operations[i];
            int error = toolAt(gauged.position).errorWhenOffBy(offBy);
            if (error > gauged.tolerance || error < -gauged.tolerance) {
                return false;
            }
        }
        return true;
    }

    private boolean isFormedAt(int position) {
        for (int i = 0; i < partCount; i++) {
            if (parts[i].hasFormingAt(position)) {
                return true;
            }
        }
        return false;
    }

    private void planUntil(int order) {
        if (order < 0 || order >= orderCount) {
            throw new IndexOutOfBoundsException("no such order");
        }
        plan.clear();
        for (int i = 0; i <= order; i++) {
            Part part = partAt(orders[i].part);
            long cycle = part.operations[slowestOf(part)].durationOfTurn();
            plan.add(orders[i].part, part.diameter, cycle * orders[i].pieces);
        }
    }

    /** One cut by one tool, and how it is laid. */
    private static final class Operation {
        char kind;
        int position;
        int travel;
        int feed;
        int speed;
        boolean isOfTurret;
        // With the turret as one room more, as its operations never go together.
        int rooms;
        int tolerance;
        int station;
        boolean isLaid;
        int begin;
        int rise;
        int dwell;
        // Kept with the layout, as the limit of returns may change behind it.
        int back;

        void define(char newKind, int newPosition, int newTravel, int newFeed, int newSpeed, int newRooms) {
            kind = newKind;
            position = newPosition;
            travel = newTravel;
            feed = newFeed;
            speed = newSpeed;
            isOfTurret = newPosition < TURRET_STATIONS;
            rooms = isOfTurret ? newRooms | TURRET_ROOM : newRooms;
            tolerance = FIRST_TOLERANCE;
            isLaid = false;
        }

        int duration() {
            int turns = quotientUp(travel, feed);
            return quotientUp((kind == 'h' ? 9000 : 6000) * turns, speed);
        }

        int durationOfTurn() {
            return quotientUp(100 * duration(), rise);
        }

        int span() {
            return rise + dwell + back;
        }

        int end() {
            return begin + rise + dwell + back;
        }

        int advanceIn(int hundredth) {
            int behindBegin = hundredth - begin;
            if (behindBegin < 0 || behindBegin >= span()) {
                return 0;
            }
            if (behindBegin < rise) {
                return quotientDown(travel * (behindBegin + 1), rise);
            }
            int behindDwell = behindBegin - rise - dwell;
            if (behindDwell < 0) {
                return travel;
            }
            return travel - quotientDown(travel * (behindDwell + 1), back);
        }

        boolean excludes(Operation other) {
            return (rooms & other.rooms) != 0;
        }

        int turningTo(Operation next) {
            return (next.position - position + TURRET_STATIONS) % TURRET_STATIONS * 2;
        }
    }

    /** A part with its operations, and the pieces of it that were made. */
    private static final class Part {
        int diameter;
        int length;
        final Operation[] operations = new Operation[MOST_OPERATIONS];
        int count;
        int goodPieces;
        int badPieces;
        final boolean[] isBadInLot = new boolean[MOST_PIECES];
        int lotSize;

        Part() {
            for (int i = 0; i < operations.length; i++) {
                operations[i] = new Operation();
            }
        }

        int addOperation() {
            int number = count;
            operations[number].station = number % SPINDLES;
            count++;
            return number;
        }

        boolean isWhollyLaid() {
            for (int i = 0; i < count; i++) {
                if (!operations[i].isLaid) {
                    return false;
                }
            }
            return count > 0;
        }

        int slowestOperation() {
            int slowest = 0;
            for (int i = 1; i < count; i++) {
                if (operations[i].durationOfTurn() > operations[slowest].durationOfTurn()) {
                    slowest = i;
                }
            }
            return slowest;
        }

        int durationAt(int station) {
            int sum = 0;
            for (int i = 0; i < count; i++) {
                if (operations[i].station == station) {
                    sum += operations[i].duration();
                }
            }
            return sum;
        }

        int durationOnSix() {
            int greatest = 0;
            for (int i = 0; i < SPINDLES; i++) {
                greatest = Math.max(greatest, durationAt(i));
            }
            return greatest + 100;
        }

        void spreadOverStations() {
            // Without a station, an operation is still to be put, and counts nowhere.
            for (int i = 0; i < count; i++) {
                operations[i].station = -1;
            }
            for (int i = 0; i < count; i++) {
                int longest = longestWithoutStation();
                if (longest >= 0) {
                    operations[longest].station = stationWithLeast();
                }
            }
        }

        int longestWithoutStation() {
            int longest = -1;
            for (int i = 0; i < count; i++) {
                if (operations[i].station < 0
                        && (longest < 0 || operations[i].duration() > operations[longest].duration())) {
                    longest = i;
                }
            }
            return longest;
        }

        int stationWithLeast() {
            int best = 0;
            for (int i = 1; i < SPINDLES; i++) {
                if (durationAt(i) < durationAt(best)) {
                    best = i;
                }
            }
            return best;
        }

        /** A bit for each position, so that one with several operations wears once. */
        int positionsUsed() {
            int positions = 0;
            for (int i = 0; i < count; i++) {
                positions |= 1 << operations[i].position;
            }
            return positions;
        }

        boolean hasFormingAt(int position) {
            for (int i = 0; i < count; i++) {
                if (operations[i].kind == 'f' && operations[i].position == position) {
                    return true;
                }
            }
            return false;
        }

        void addPiece(boolean isGood) {
            if (isGood) {
                goodPieces++;
            } else {
                badPieces++;
            }
            if (lotSize < isBadInLot.length) {
                isBadInLot[lotSize] = !isGood;
                lotSize++;
            }
        }

        int badInSample(int sample) {
            int sum = 0;
            for (int i = 0; i < sample && i < lotSize; i++) {
                if (isBadInLot[i]) {
                    sum++;
                }
            }
            return sum;
        }

        long chipsOfPiece() {
            long sum = (long) diameter * diameter * 20;
            for (int i = 0; i < count; i++) {
                sum += (long) operations[i].travel * diameter;
            }
            return sum / 100;
        }

        long addToChecksum(long before) {
            long sum = before;
            for (int i = 0; i < count; i++) {
                int begin = operations[i].isLaid ? operations[i].begin : -1;
                sum = 31 * sum + operations[i].travel + 7 * begin;
            }
            return sum;
        }

        boolean endsInTime() {
            for (int i = 0; i < count; i++) {
                if (operations[i].isLaid && operations[i].end() > HUNDREDTHS) {
                    return false;
                }
            }
            return true;
        }
    }

    /** Finds collisions and presses; its rows are used again for each part. */
    private static final class Layout {
        final boolean[] isHit = new boolean[HUNDREDTHS];
        final int[] pressed = new int[MOST_OPERATIONS];
        final int[] newBegins = new int[MOST_OPERATIONS];

        boolean hasCycle(Part part) {
            return part.isWhollyLaid() && countHits(part) == 0;
        }

        int hitAt(Part part, int index) {
            countHits(part);
            int ahead = 0;
            for (int i = 0; i < isHit.length; i++) {
                if (isHit[i]) {
                    if (ahead == index) {
                        return i;
                    }
                    ahead++;
                }
            }
            return -1;
        }

        /** Marks the hundredths in which operations collide, and returns how many these are. */
        int countHits(Part part) {
            for (int i = 0; i < isHit.length; i++) {
                isHit[i] = false;
            }
            int sum = 0;
            for (int i = 0; i < part.count; i++) {
                if (part.operations[i].isLaid) {
                    sum += markOverlaps(part, i) + markTurning(part, i);
                }
            }
            return sum;
        }

        int markOverlaps(Part part, int number) {
            Operation one = part.operations[number];
            int sum = 0;
            for (int i = 0; i < number; i++) {
                Operation other = part.operations[i];
                if (other.isLaid && one.excludes(other)) {
                    sum += markNew(Math.max(one.begin, other.begin), Math.min(one.end(), other.end()));
                }
            }
            return sum;
        }

        int markTurning(Part part, int number) {
            Operation one = part.operations[number];
            int ahead = aheadOnTurret(part, number);
            if (ahead < 0) {
                return 0;
            }
            Operation other = part.operations[ahead];
            boolean isLate = one.begin - other.end() < other.turningTo(one);
            return isLate ? markNew(one.begin, one.begin + 1) : 0;
        }

        /** Returns how many hundredths were not marked yet, as several pairs may collide in one. */
        int markNew(int begin, int end) {
            int sum = 0;
            for (int i = begin; i >= 0 && i < end && i < isHit.length; i++) {
                if (!isHit[i]) {
                    isHit[i] = true;
                    sum++;
                }
            }
            return sum;
        }

        int aheadOnTurret(Part part, int number) {
            Operation one = part.operations[number];
            int best = -1;
            if (!one.isOfTurret) {
                return best;
            }
            for (int i = 0; i < part.count; i++) {
                Operation other = part.operations[i];
                boolean isAhead = other.begin < one.begin || other.begin == one.begin && i < number;
                if (other.isLaid && other.isOfTurret && isAhead
                        && (best < 0 || other.begin >= part.operations[best].begin)) {
                    best = i;
                }
            }
            return best;
        }

        /** The hundredth behind the last one, or -1 if not all fit; nothing is changed then. */
        int pressTogether(Part part) {
            int laid = rankLaid(part);
            int lastOfTurret = -1;
            int end = 0;
            for (int i = 0; i < laid; i++) {
                Operation moved = part.operations[pressed[i]];
                int earliest = 0;
                if (moved.isOfTurret && lastOfTurret >= 0) {
                    Operation ahead = part.operations[pressed[lastOfTurret]];
                    earliest = newBegins[lastOfTurret] + ahead.span() + ahead.turningTo(moved);
                }
                newBegins[i] = firstFree(part, i, earliest);
                if (newBegins[i] < 0) {
                    return -1;
                }
                if (moved.isOfTurret) {
                    lastOfTurret = i;
                }
                end = Math.max(end, newBegins[i] + moved.span());
            }
            for (int i = 0; i < laid; i++) {
                part.operations[pressed[i]].begin = newBegins[i];
            }
            return end;
        }

        /** Puts the numbers of what is laid in a row, by begins; of several at once by numbers. */
        int rankLaid(Part part) {
            int laid = 0;
            for (int i = 0; i < part.count; i++) {
                Operation one = part.operations[i];
                if (one.isLaid && laid < pressed.length) {
                    int place = laid;
                    while (place > 0 && part.operations[pressed[place - 1]].begin > one.begin) {
                        pressed[place] = pressed[place - 1];
                        place--;
                    }
                    pressed[place] = i;
                    laid++;
                }
            }
            return laid;
        }

        int firstFree(Part part, int place, int earliest) {
            int span = part.operations[pressed[place]].span();
            for (int begin = earliest; begin + span <= HUNDREDTHS; begin++) {
                if (isFree(part, place, begin)) {
                    return begin;
                }
            }
            return -1;
        }

        boolean isFree(Part part, int place, int begin) {
            Operation one = part.operations[pressed[place]];
            for (int i = 0; i < place; i++) {
                Operation other = part.operations[pressed[i]];
                if (one.excludes(other) && begin < newBegins[i] + other.span()
                        && newBegins[i] < begin + one.span()) {
                    return false;
                }
            }
            return true;
        }
    }

    /** A cam with the shape that it was cut to last. */
    private static final class Cam {
        int radius;
        boolean isShaped;
        int lift;
        int begin;
        int rise;
        int dwell;

        boolean hasShape(Operation served, int asked) {
            return isShaped && lift == asked && begin == served.begin && rise == served.rise
                    && dwell == served.dwell;
        }

        boolean canBeCut(int asked) {
            return radius - asked - 50 >= LEAST_RADIUS;
        }

        void shape(Operation served, int asked) {
            radius -= asked + 50;
            isShaped = true;
            lift = asked;
            begin = served.begin;
            rise = served.rise;
            dwell = served.dwell;
        }
    }

    /** The tool at a position, and its lever. */
    private static final class Tool {
        int ratio = 1;
        int wearOfPiece = 1;
        int wear;
        int corrected;
        // 1 or -1 by the last steps, 0 ahead of all.
        int way;
        int face = 1000;

        int errorWhenOffBy(int offBy) {
            return wear + offBy - corrected;
        }

        int moveBy(int steps) {
            if (steps == 0) {
                return 0;
            }
            int newWay = steps > 0 ? 1 : -1;
            int moved = Math.abs(steps);
            if (way == -newWay) {
                moved = Math.max(0, moved - 3);
            }
            way = newWay;
            corrected += newWay * moved;
            return moved;
        }
    }

    /** The bars by diameters, and the one that was begun. */
    private static final class Stock {
        final int[] counts = new int[MOST_DIAMETER + 1];
        // 0 as long as none of the diameter were brought.
        final int[] lengths = new int[MOST_DIAMETER + 1];
        int begunPart = -1;
        int begunLeft;

        boolean isDiameter(int diameter) {
            return diameter >= 0 && diameter < counts.length;
        }

        int barsOf(int diameter) {
            return isDiameter(diameter) ? counts[diameter] : 0;
        }

        void add(int diameter, int bars, int length) {
            if (isDiameter(diameter)) {
                counts[diameter] += bars;
                lengths[diameter] = length;
            }
        }

        boolean wasBrought(int diameter) {
            return isDiameter(diameter) && lengths[diameter] > 0;
        }

        int yieldOfBar(Part part) {
            if (!wasBrought(part.diameter)) {
                return 0;
            }
            return quotientDown(lengths[part.diameter] - 600, part.length + 20);
        }

        /** Takes bars for as many pieces as can be made, and returns how many these are. */
        int take(int number, Part part, int pieces) {
            if (begunPart != number) {
                begunPart = number;
                begunLeft = 0;
            }
            int piecesEach = yieldOfBar(part);
            int taken = 0;
            for (int i = 0; i < pieces; i++) {
                if (begunLeft == 0 && piecesEach > 0 && barsOf(part.diameter) > 0) {
                    counts[part.diameter]--;
                    begunLeft = piecesEach;
                }
                if (begunLeft > 0) {
                    begunLeft--;
                    taken++;
                }
            }
            return taken;
        }
    }

    /** An order for pieces of a part. */
    private static final class Order {
        int part;
        int pieces;
    }

    /** What one machine of the plan did last, in hundredths of a second. */
    private static final class Machine {
        long freeAt;
        int lastPart;
        int lastDiameter;
    }

    /** Plans order by order; it tells of the one that was added last. */
    private static final class Plan {
        final Machine[] machines = new Machine[MACHINES];
        long setterFreeAt;
        int machine;
        long end;

        Plan() {
            for (int i = 0; i < machines.length; i++) {
                machines[i] = new Machine();
            }
        }

        void clear() {
            setterFreeAt = 0;
            for (int i = 0; i < machines.length; i++) {
                machines[i].freeAt = 0;
                machines[i].lastPart = -1;
                machines[i].lastDiameter = -1;
            }
        }

        void add(int part, int diameter, long work) {
            int best = 0;
            for (int i = 1; i < machines.length; i++) {
                if (beginOn(machines[i], part, diameter) < beginOn(machines[best], part, diameter)) {
                    best = i;
                }
            }
            Machine chosen = machines[best];
            long begin = beginOn(chosen, part, diameter);
            if (chosen.lastPart != part) {
                setterFreeAt = begin;
            }
            chosen.freeAt = begin + work;
            chosen.lastPart = part;
            chosen.lastDiameter = diameter;
            machine = best;
            end = chosen.freeAt;
        }

        /** When pieces can be made: the work is the same on each machine, so the first to begin ends first. */
        long beginOn(Machine asked, int part, int diameter) {
            if (asked.lastPart == part) {
                return asked.freeAt;
            }
            long setting = asked.lastDiameter == diameter ? 600 : 1800;
            return Math.max(asked.freeAt, setterFreeAt) + setting * 100;
        }
    }
}
