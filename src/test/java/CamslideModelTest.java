import java.util.ArrayList;
import java.util.HashMap;
import java.util.List;
import java.util.Map;
import java.util.NoSuchElementException;
import java.util.TreeSet;

/**
 * Long mixed runs of calls, each answer beside that of a second, plainer writing of the document.
 * The second one keeps no layouts in mind but grids of hundredths, and copies itself instead of looking ahead.
 */
public final class CamslideModelTest {
    private static final int RUNS = 1500;
    private static final int CALLS = 512;

    private static long seed = 20261119;
    private static final Map<String, Integer> outcomes = new HashMap<>();

    private static int any(int least, int most) {
        seed = seed * 6364136223846793005L + 1442695040888963407L;
        return least + (int) Math.floorMod(seed >>> 33, (long) (most - least + 1));
    }

    /** Mostly within the bounds, at times at them, at times beyond. */
    private static int near(int least, int most) {
        int kind = any(0, 29);
        if (kind == 0) {
            return least - 1;
        }
        if (kind == 1) {
            return most + 1;
        }
        return kind == 2 ? least : kind == 3 ? most : kind == 4 && any(0, 9) == 0 ? any(0, 1) == 0
                ? Integer.MIN_VALUE : Integer.MAX_VALUE : any(least, most);
    }

    private static final class Op {
        char kind;
        int position, travel, feed, speed, rooms, tolerance = 50, station;
        int begin = -1, rise, dwell, back;

        int time() {
            int turns = travel / feed + (travel % feed == 0 ? 0 : 1);
            int hundredths = turns * (kind == 'h' ? 9000 : 6000);
            return hundredths / speed + (hundredths % speed == 0 ? 0 : 1);
        }

        int[] path() {
            int[] path = new int[rise + dwell + back];
            for (int i = 0; i < path.length; i++) {
                path[i] = i < rise ? travel * (i + 1) / rise
                        : i < rise + dwell ? travel : travel - travel * (i - rise - dwell + 1) / back;
            }
            return path;
        }

        int end() {
            return begin + path().length;
        }

        boolean turret() {
            return position <= 5;
        }
    }

    private static final class Pt {
        int diameter, length, good, bad;
        List<Op> ops = new ArrayList<>();
        List<Boolean> lot = new ArrayList<>();
    }

    private static int turn(int from, int to) {
        int hundredths = 0;
        while (from != to) {
            from = from == 5 ? 0 : from + 1;
            hundredths += 2;
        }
        return hundredths;
    }

    private static final class Model {
        List<Pt> parts = new ArrayList<>();
        List<int[]> cams = new ArrayList<>();
        List<int[]> orders = new ArrayList<>();
        Map<Integer, Integer> bars = new HashMap<>();
        Map<Integer, Integer> lengths = new HashMap<>();
        int[] ratio = {1, 1, 1, 1, 1, 1, 1, 1, 1};
        int[] wear = {1, 1, 1, 1, 1, 1, 1, 1, 1};
        int[] worn = new int[9];
        int[] corrected = new int[9];
        int[] way = new int[9];
        int[] face = {1000, 1000, 1000, 1000, 1000, 1000, 1000, 1000, 1000};
        int riseLimit = 20, backLimit = 40, warm;
        boolean stopped;
        Pt begun;
        int left;

        Pt part(int p) {
            if (p < 0 || p >= parts.size()) {
                throw new IndexOutOfBoundsException();
            }
            return parts.get(p);
        }

        Op op(int p, int o) {
            if (o < 0 || o >= part(p).ops.size()) {
                throw new IndexOutOfBoundsException();
            }
            return part(p).ops.get(o);
        }

        Op laid(int p, int o) {
            if (op(p, o).begin < 0) {
                throw new NoSuchElementException();
            }
            return op(p, o);
        }

        static void in(int number, int least, int most) {
            if (number < least || number > most) {
                throw new IllegalArgumentException();
            }
        }

        void at(int number, int size) {
            if (number < 0 || number >= size) {
                throw new IndexOutOfBoundsException();
            }
        }

        TreeSet<Integer> hits(Pt p) {
            TreeSet<Integer> hits = new TreeSet<>();
            for (int h = 0; h < 100; h++) {
                List<Op> here = new ArrayList<>();
                for (Op o : p.ops) {
                    if (o.begin >= 0 && h >= o.begin && h < o.end()) {
                        here.add(o);
                    }
                }
                for (Op a : here) {
                    for (Op b : here) {
                        if (a != b && ((a.rooms & b.rooms) > 0 || a.turret() && b.turret())) {
                            hits.add(h);
                        }
                    }
                }
            }
            List<Op> row = new ArrayList<>();
            for (int h = 0; h < 100; h++) {
                for (Op o : p.ops) {
                    if (o.begin == h && o.turret()) {
                        row.add(o);
                    }
                }
            }
            for (int i = 1; i < row.size(); i++) {
                Op ahead = row.get(i - 1);
                Op o = row.get(i);
                if (o.begin < ahead.end() + turn(ahead.position, o.position)) {
                    hits.add(o.begin);
                }
            }
            return hits;
        }

        int press(Pt p) {
            List<Op> row = new ArrayList<>();
            for (int h = 0; h < 100; h++) {
                for (Op o : p.ops) {
                    if (o.begin == h) {
                        row.add(o);
                    }
                }
            }
            int[] owners = new int[200];
            List<Integer> begins = new ArrayList<>();
            int end = 0;
            int free = 0;
            int station = -1;
            for (Op o : row) {
                int long_ = o.path().length;
                int b = o.turret() && station >= 0 ? free + turn(station, o.position) : 0;
                while (b + long_ <= 100) {
                    boolean hit = false;
                    for (int h = b; h < b + long_; h++) {
                        hit |= (owners[h] & o.rooms) != 0;
                    }
                    if (!hit) {
                        break;
                    }
                    b++;
                }
                if (b + long_ > 100) {
                    throw new UnsupportedOperationException();
                }
                for (int h = b; h < b + long_; h++) {
                    owners[h] |= o.rooms;
                }
                if (o.turret()) {
                    free = b + long_;
                    station = o.position;
                }
                begins.add(b);
                end = Math.max(end, b + long_);
            }
            for (int i = 0; i < row.size(); i++) {
                row.get(i).begin = begins.get(i);
            }
            return end;
        }

        /** The cycle, and the operation that tells it. */
        int[] cycle(Pt p) {
            int[] best = {0, -1};
            for (int i = 0; i < p.ops.size(); i++) {
                Op o = p.ops.get(i);
                if (o.begin < 0) {
                    throw new NoSuchElementException();
                }
                int c = (int) Math.ceil(100.0 * o.time() / o.rise);
                if (c > best[0]) {
                    best = new int[] {c, i};
                }
            }
            if (best[1] < 0 || !hits(p).isEmpty()) {
                throw new NoSuchElementException();
            }
            return best;
        }

        int six(Pt p) {
            if (p.ops.isEmpty()) {
                throw new NoSuchElementException();
            }
            int[] sums = new int[6];
            int most = 0;
            for (Op o : p.ops) {
                sums[o.station] += o.time();
                most = Math.max(most, sums[o.station]);
            }
            return most + 100;
        }

        int balance(Pt p) {
            six(p);
            List<Op> row = new ArrayList<>(p.ops);
            row.sort((a, b) -> b.time() - a.time());
            int[] sums = new int[6];
            for (Op o : row) {
                int s = 0;
                for (int i = 0; i < 6; i++) {
                    s = sums[i] < sums[s] ? i : s;
                }
                o.station = s;
                sums[s] += o.time();
            }
            return six(p);
        }

        int camRise(Op o) {
            return o.travel / ratio[o.position] + (o.travel % ratio[o.position] > 0 ? 1 : 0);
        }

        boolean fits(int[] cam, Op o) {
            return cam[1] == camRise(o) && cam[2] == o.begin && cam[3] == o.rise && cam[4] == o.dwell;
        }

        int camFor(Op o) {
            for (int i = 0; i < cams.size(); i++) {
                if (fits(cams.get(i), o)) {
                    return i;
                }
            }
            for (int r = 800; r < 10000; r++) {
                for (int i = 0; i < cams.size(); i++) {
                    if (cams.get(i)[0] == r && r - 50 - camRise(o) >= 800) {
                        return i;
                    }
                }
            }
            throw new UnsupportedOperationException();
        }

        int cut(int[] cam, Op o) {
            if (!fits(cam, o)) {
                if (cam[0] < 850 + camRise(o)) {
                    throw new UnsupportedOperationException();
                }
                cam[0] -= 50 + camRise(o);
                cam[1] = camRise(o);
                cam[2] = o.begin;
                cam[3] = o.rise;
                cam[4] = o.dwell;
            }
            return cam[0];
        }

        int error(int position) {
            int off = 20 - warm / 5;
            return worn[position] + (off < 0 ? 0 : off) - corrected[position];
        }

        int perBar(Pt p) {
            return (lengths.getOrDefault(p.diameter, 600) - 600) / (p.length + 20);
        }

        int run(Pt p, int pieces) {
            if (begun != p) {
                left = 0;
                begun = p;
            }
            List<Boolean> lot = new ArrayList<>();
            while (lot.size() < pieces) {
                if (left == 0) {
                    if (perBar(p) == 0 || bars.getOrDefault(p.diameter, 0) == 0) {
                        break;
                    }
                    bars.merge(p.diameter, -1, Integer::sum);
                    left = perBar(p);
                }
                left--;
                warm++;
                for (int i = 0; i < 9; i++) {
                    for (Op o : p.ops) {
                        if (o.position == i) {
                            worn[i] += wear[i];
                            break;
                        }
                    }
                }
                boolean good = true;
                for (Op o : p.ops) {
                    good &= Math.abs(error(o.position)) <= o.tolerance;
                }
                lot.add(good);
                p.good += good ? 1 : 0;
                p.bad += good ? 0 : 1;
            }
            if (!lot.isEmpty()) {
                p.lot = lot;
            }
            return lot.size();
        }

        int correct(int position, int steps) {
            int kept = 0;
            int lost = way[position] * steps < 0 ? 3 : 0;
            int step = steps < 0 ? -1 : 1;
            for (int i = 0; i < Math.abs(steps); i++) {
                if (i >= lost) {
                    corrected[position] += step;
                    kept++;
                }
                way[position] = step;
            }
            return kept;
        }

        int grind(int position) {
            boolean forms = false;
            for (Pt p : parts) {
                for (Op o : p.ops) {
                    forms |= o.kind == 'f' && o.position == position;
                }
            }
            if (!forms || face[position] < 400) {
                throw new UnsupportedOperationException();
            }
            worn[position] = 0;
            face[position] -= 100;
            return face[position];
        }

        /** The machine and the end in hundredths. */
        long[] plan(int order) {
            at(order, orders.size());
            long[] free = new long[3];
            int[] last = {-1, -1, -1};
            long setter = 0;
            long[] answer = null;
            for (int i = 0; i <= order; i++) {
                Pt p = part(orders.get(i)[0]);
                long work = (long) cycle(p)[0] * orders.get(i)[1];
                long[] ends = new long[3];
                for (int m = 0; m < 3; m++) {
                    ends[m] = last[m] == orders.get(i)[0] ? free[m] + work
                            : Math.max(free[m], setter) + work
                            + (last[m] >= 0 && part(last[m]).diameter == p.diameter ? 60000 : 180000);
                }
                int m = ends[0] <= ends[1] && ends[0] <= ends[2] ? 0 : ends[1] <= ends[2] ? 1 : 2;
                if (last[m] != orders.get(i)[0]) {
                    setter = ends[m] - work;
                }
                free[m] = ends[m];
                last[m] = orders.get(i)[0];
                answer = new long[] {m, ends[m]};
            }
            return answer;
        }

        Object answer(String call, int[] a, char kind, boolean flag) {
            switch (call) {
                case "part": {
                    in(a[0], 20, 400);
                    in(a[1], 10, 999);
                    if (parts.size() == 5) {
                        throw new IllegalStateException();
                    }
                    Pt p = new Pt();
                    p.diameter = a[0];
                    p.length = a[1];
                    parts.add(p);
                    return parts.size() - 1;
                }
                case "operation": {
                    Pt p = part(a[0]);
                    in("tdhkfc".indexOf(kind), 0, 5);
                    in(a[1], 0, 8);
                    in(a[2], 1, 999);
                    in(a[3], 1, 50);
                    in(a[4], 100, 5000);
                    in(a[5], 0, 255);
                    if (p.ops.size() == 10) {
                        throw new IllegalStateException();
                    }
                    Op o = new Op();
                    o.kind = kind;
                    o.position = a[1];
                    o.travel = a[2];
                    o.feed = a[3];
                    o.speed = a[4];
                    o.rooms = a[5];
                    o.station = p.ops.size() % 6;
                    p.ops.add(o);
                    return p.ops.size() - 1;
                }
                case "halve": {
                    Op o = op(a[0], a[1]);
                    Pt p = part(a[0]);
                    if (o.travel == 1) {
                        throw new UnsupportedOperationException();
                    }
                    if (p.ops.size() == 10) {
                        throw new IllegalStateException();
                    }
                    Op n = new Op();
                    n.kind = o.kind;
                    n.position = o.position;
                    n.travel = o.travel / 2;
                    n.feed = o.feed;
                    n.speed = o.speed;
                    n.rooms = o.rooms;
                    n.tolerance = o.tolerance;
                    n.station = p.ops.size() % 6;
                    o.travel = (o.travel + 1) / 2;
                    o.begin = -1;
                    p.ops.add(n);
                    return p.ops.size() - 1;
                }
                case "travel":
                    return op(a[0], a[1]).travel;
                case "time":
                    return op(a[0], a[1]).time();
                case "setLimits": {
                    in(a[0], 1, 99);
                    in(a[1], 1, 99);
                    int before = riseLimit;
                    riseLimit = a[0];
                    backLimit = a[1];
                    return before;
                }
                case "lay": {
                    Op o = op(a[0], a[1]);
                    in(a[2], 0, 99);
                    in(a[3], 1, 100);
                    in(a[4], 0, 99);
                    int back = (int) Math.ceil((double) o.travel / backLimit);
                    if (o.travel > a[3] * riseLimit || a[2] + a[3] + a[4] + back > 100) {
                        throw new UnsupportedOperationException();
                    }
                    o.begin = a[2];
                    o.rise = a[3];
                    o.dwell = a[4];
                    o.back = back;
                    return o.end();
                }
                case "advance": {
                    op(a[0], a[1]);
                    in(a[2], 0, 99);
                    Op o = laid(a[0], a[1]);
                    return a[2] < o.begin || a[2] >= o.end() ? 0 : o.path()[a[2] - o.begin];
                }
                case "collisions":
                    return hits(part(a[0])).size();
                case "collisionAt": {
                    List<Integer> hits = new ArrayList<>(hits(part(a[0])));
                    if (a[1] < 0 || a[1] >= hits.size()) {
                        throw new NoSuchElementException();
                    }
                    return hits.get(a[1]);
                }
                case "press":
                    return press(part(a[0]));
                case "begins":
                    return laid(a[0], a[1]).begin;
                case "cycle":
                    return cycle(part(a[0]))[0];
                case "slowest":
                    return cycle(part(a[0]))[1];
                case "station": {
                    Op o = op(a[0], a[1]);
                    in(a[2], 0, 5);
                    int before = o.station;
                    o.station = a[2];
                    return before;
                }
                case "cycleOfSix":
                    return six(part(a[0]));
                case "balance":
                    return balance(part(a[0]));
                default:
                    return answerMore(call, a, flag);
            }
        }

        Object answerMore(String call, int[] a, boolean flag) {
            switch (call) {
                case "cam":
                    in(a[0], 1000, 9999);
                    if (cams.size() == 12) {
                        throw new IllegalStateException();
                    }
                    cams.add(new int[] {a[0], -1, -1, -1, -1});
                    return cams.size() - 1;
                case "setRatio": {
                    at(a[0], 9);
                    in(a[1], 1, 4);
                    int before = ratio[a[0]];
                    ratio[a[0]] = a[1];
                    return before;
                }
                case "camRise":
                    return camRise(laid(a[0], a[1]));
                case "camFor":
                    return camFor(laid(a[0], a[1]));
                case "cutCam":
                    at(a[0], cams.size());
                    return cut(cams.get(a[0]), laid(a[1], a[2]));
                case "radius":
                    at(a[0], cams.size());
                    return cams.get(a[0])[0];
                case "bring":
                    in(a[0], 20, 400);
                    in(a[1], 1, 99);
                    in(a[2], 1000, 40000);
                    if (bars.getOrDefault(a[0], 0) + a[1] > 999) {
                        throw new UnsupportedOperationException();
                    }
                    lengths.put(a[0], a[2]);
                    return bars.merge(a[0], a[1], Integer::sum);
                case "piecesOfBar":
                    if (!lengths.containsKey(part(a[0]).diameter)) {
                        throw new NoSuchElementException();
                    }
                    return perBar(part(a[0]));
                case "bars":
                    return bars.getOrDefault(a[0], 0);
                case "stop": {
                    boolean was = stopped;
                    stopped = flag;
                    warm = flag ? 0 : warm;
                    return was;
                }
                case "run":
                    part(a[0]);
                    in(a[1], 1, 999);
                    if (stopped) {
                        throw new IllegalStateException();
                    }
                    try {
                        cycle(part(a[0]));
                    } catch (NoSuchElementException e) {
                        throw new UnsupportedOperationException();
                    }
                    return run(part(a[0]), a[1]);
                case "setWear": {
                    at(a[0], 9);
                    in(a[1], 0, 20);
                    int before = wear[a[0]];
                    wear[a[0]] = a[1];
                    return before;
                }
                case "correct":
                    at(a[0], 9);
                    in(a[1], -200, 200);
                    return correct(a[0], a[1]);
                case "error":
                    at(a[0], 9);
                    return error(a[0]);
                case "grind":
                    at(a[0], 9);
                    return grind(a[0]);
                default:
                    return answerLast(call, a);
            }
        }

        Object answerLast(String call, int[] a) {
            switch (call) {
                case "setTolerance": {
                    Op o = op(a[0], a[1]);
                    in(a[2], 1, 500);
                    int before = o.tolerance;
                    o.tolerance = a[2];
                    return before;
                }
                case "good":
                    return part(a[0]).good;
                case "bad":
                    return part(a[0]).bad;
                case "isAccepted": {
                    Pt p = part(a[0]);
                    in(a[1], 1, 999);
                    in(a[2], 0, 999);
                    if (p.lot.isEmpty()) {
                        throw new NoSuchElementException();
                    }
                    List<Boolean> sample = p.lot.subList(0, Math.min(a[1], p.lot.size()));
                    return sample.stream().filter(good -> !good).count() <= a[2];
                }
                case "order":
                    part(a[0]);
                    in(a[1], 1, 9999);
                    if (orders.size() == 8) {
                        throw new IllegalStateException();
                    }
                    orders.add(new int[] {a[0], a[1]});
                    return orders.size() - 1;
                case "machineOf":
                    return (int) plan(a[0])[0];
                case "ends":
                    return plan(a[0])[1] / 100 + (plan(a[0])[1] % 100 > 0 ? 1 : 0);
                case "chips": {
                    Pt p = part(a[0]);
                    long travels = 0;
                    for (Op o : p.ops) {
                        travels += o.travel;
                    }
                    return p.diameter * (20L * p.diameter + travels) / 100;
                }
                case "paysFrom": {
                    long cycle = cycle(part(a[0]))[0];
                    int n = 1;
                    while (2400000 + n * cycle > 360000 + n * cycle * 3) {
                        n++;
                    }
                    return n;
                }
                case "checksum": {
                    long sum = 0;
                    for (Pt p : parts) {
                        for (Op o : p.ops) {
                            sum = sum * 31 + o.travel + 7 * o.begin;
                        }
                    }
                    return sum;
                }
                case "goodShare": {
                    int good = 0;
                    int all = 0;
                    for (Pt p : parts) {
                        good += p.good;
                        all += p.good + p.bad;
                    }
                    if (all == 0) {
                        throw new ArithmeticException();
                    }
                    return (float) good / (float) all;
                }
                case "meanRadius":
                    if (cams.isEmpty()) {
                        throw new ArithmeticException();
                    }
                    return (double) cams.stream().mapToInt(cam -> cam[0]).sum() / (double) cams.size();
                default:
                    return true;
            }
        }
    }

    private static Object asked(Camslide x, String call, int[] a, char kind, boolean flag) {
        switch (call) {
            case "part": return x.part(a[0], a[1]);
            case "operation": return x.operation(a[0], kind, a[1], a[2], a[3], a[4], a[5]);
            case "halve": return x.halve(a[0], a[1]);
            case "travel": return x.travel(a[0], a[1]);
            case "time": return x.time(a[0], a[1]);
            case "setLimits": return x.setLimits(a[0], a[1]);
            case "lay": return x.lay(a[0], a[1], a[2], a[3], a[4]);
            case "advance": return x.advance(a[0], a[1], a[2]);
            case "collisions": return x.collisions(a[0]);
            case "collisionAt": return x.collisionAt(a[0], a[1]);
            case "press": return x.press(a[0]);
            case "begins": return x.begins(a[0], a[1]);
            case "cycle": return x.cycle(a[0]);
            case "slowest": return x.slowest(a[0]);
            case "station": return x.station(a[0], a[1], a[2]);
            case "cycleOfSix": return x.cycleOfSix(a[0]);
            case "balance": return x.balance(a[0]);
            case "cam": return x.cam(a[0]);
            case "setRatio": return x.setRatio(a[0], a[1]);
            case "camRise": return x.camRise(a[0], a[1]);
            case "camFor": return x.camFor(a[0], a[1]);
            case "cutCam": return x.cutCam(a[0], a[1], a[2]);
            case "radius": return x.radius(a[0]);
            case "bring": return x.bring(a[0], a[1], a[2]);
            case "piecesOfBar": return x.piecesOfBar(a[0]);
            case "bars": return x.bars(a[0]);
            case "stop": return x.stop(flag);
            case "run": return x.run(a[0], a[1]);
            case "setWear": return x.setWear(a[0], a[1]);
            case "correct": return x.correct(a[0], a[1]);
            case "error": return x.error(a[0]);
            case "grind": return x.grind(a[0]);
            case "setTolerance": return x.setTolerance(a[0], a[1], a[2]);
            case "good": return x.good(a[0]);
            case "bad": return x.bad(a[0]);
            case "isAccepted": return x.isAccepted(a[0], a[1], a[2]);
            case "order": return x.order(a[0], a[1]);
            case "machineOf": return x.machineOf(a[0]);
            case "ends": return x.ends(a[0]);
            case "chips": return x.chips(a[0]);
            case "paysFrom": return x.paysFrom(a[0]);
            case "checksum": return x.checksum();
            case "goodShare": return x.goodShare();
            case "meanRadius": return x.meanRadius();
            default: return x.isSound();
        }
    }

    private static final String[] CALLS_OF_ALL = {"part", "operation", "halve", "travel", "time", "setLimits", "lay",
        "advance", "collisions", "collisionAt", "press", "begins", "cycle", "slowest", "station", "cycleOfSix",
        "balance", "cam", "setRatio", "camRise", "camFor", "cutCam", "radius", "bring", "piecesOfBar", "bars", "stop",
        "run", "setWear", "correct", "error", "grind", "setTolerance", "good", "bad", "isAccepted", "order",
        "machineOf", "ends", "chips", "paysFrom", "checksum", "goodShare", "meanRadius", "isSound"};

    private static String nextCall(int i) {
        if (i < 2) {
            return "part";
        }
        if (i < 14) {
            return any(0, 9) == 0 ? "bring" : any(0, 2) == 0 ? "lay" : "operation";
        }
        int kind = any(0, 99);
        if (kind < 22) {
            return "lay";
        }
        if (kind < 26) {
            return "press";
        }
        if (kind < 34) {
            return "run";
        }
        return CALLS_OF_ALL[any(0, CALLS_OF_ALL.length - 1)];
    }

    /** What a call is asked with; parts and operations that are there are asked for most. */
    private static int[] arguments(String call, Model model, boolean isWide, int[] diameters) {
        int p = near(0, Math.max(0, model.parts.size() - 1));
        boolean isThere = p >= 0 && p < model.parts.size();
        int o = near(0, isThere ? Math.max(0, model.parts.get(p).ops.size() - 1) : 0);
        switch (call) {
            case "part": return new int[] {any(0, 9) > 0 ? diameters[any(0, 2)] : near(20, 400), near(10, 999)};
            case "operation": return new int[] {p, near(0, 8), isWide ? near(1, 999) : near(1, 120), near(1, 50),
                near(100, 5000), isWide ? near(0, 255) : 1 << any(0, 7) & near(0, 255)};
            case "setLimits": return new int[] {near(1, 99), near(1, 99)};
            case "lay": return new int[] {p, o, near(0, 99), isWide ? near(1, 100) : any(1, 12),
                isWide ? near(0, 20) : any(0, 2)};
            case "advance": return new int[] {p, o, near(0, 99)};
            case "collisionAt": return new int[] {p, near(0, 20)};
            case "station": return new int[] {p, o, near(0, 5)};
            case "cam": return new int[] {any(0, 1) == 0 ? near(1000, 9999) : any(1000, 1400)};
            case "setRatio": return new int[] {near(0, 8), near(1, 4)};
            case "cutCam": return new int[] {near(0, 5), p, o};
            case "radius": return new int[] {near(0, 11)};
            case "bring": return new int[] {any(0, 9) > 0 ? diameters[any(0, 2)] : near(20, 400), near(1, 99),
                any(0, 1) == 0 ? any(1000, 3000) : near(1000, 40000)};
            case "bars": return new int[] {any(0, 9) > 0 ? diameters[any(0, 2)] : near(0, 401)};
            case "run": return new int[] {p, any(0, 3) > 0 ? any(1, 30) : near(1, 999)};
            case "setWear": return new int[] {near(0, 8), near(0, 20)};
            case "correct": return new int[] {near(0, 8), any(0, 1) == 0 ? any(-5, 5) : near(-200, 200)};
            case "error": case "grind": return new int[] {near(0, 8)};
            case "setTolerance": return new int[] {p, o, near(1, 500)};
            case "isAccepted": return new int[] {p, any(0, 1) == 0 ? near(1, 20) : near(1, 999),
                any(0, 1) == 0 ? near(0, 9) : near(0, 999)};
            case "order": return new int[] {p, near(1, 9999)};
            case "machineOf": case "ends": return new int[] {near(0, 7)};
            default: return new int[] {p, o};
        }
    }

    public static void main(String[] args) {
        for (int run = 0; run < RUNS; run++) {
            Camslide x = new Camslide();
            Model model = new Model();
            boolean isWide = any(0, 3) == 0;
            int most = any(1, 5);
            int[] diameters = {any(20, 400), any(20, 400), 60};
            List<String> trail = new ArrayList<>();
            for (int i = 0; i < CALLS; i++) {
                String call = nextCall(i);
                if (!isWide && call.equals("operation") && i > 14 && any(0, 9) > 0) {
                    call = "cycle";
                }
                if (call.equals("part") && model.parts.size() >= most && any(0, 19) > 0) {
                    call = "press";
                }
                int[] a = arguments(call, model, isWide, diameters);
                char kind = any(0, 30) == 0 ? (char) any(0, 300) : "tdhkfc".charAt(any(0, 5));
                boolean flag = any(0, 9) == 0;
                Object due;
                Object got;
                try {
                    due = model.answer(call, a, kind, flag);
                } catch (RuntimeException e) {
                    due = e.getClass();
                }
                try {
                    got = asked(x, call, a, kind, flag);
                } catch (RuntimeException e) {
                    got = e.getClass();
                }
                trail.add(call + java.util.Arrays.toString(a) + (int) kind + flag + " -> " + due);
                if (call.equals("run") && due instanceof Integer made && made > 0) {
                    outcomes.merge("run of some", 1, Integer::sum);
                }
                outcomes.merge(call + " " + (due instanceof Class ? due : "answers"), 1, Integer::sum);
                if (!due.equals(got)) {
                    trail.forEach(System.out::println);
                    System.out.println("run " + run + " call " + i + " answered " + got + ", due is " + due);
                    System.exit(1);
                }
            }
        }
        if (args.length > 0) {
            new java.util.TreeMap<>(outcomes).forEach((k, v) -> System.out.println(k + ": " + v));
        }
        System.out.println(RUNS * CALLS + " answers are as those of the model");
    }
}
