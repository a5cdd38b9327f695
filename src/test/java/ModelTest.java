import java.util.ArrayList;
import java.util.Collections;
import java.util.HashMap;
import java.util.HashSet;
import java.util.List;
import java.util.Map;
import java.util.Random;
import java.util.Set;

/** Runs of calls with fixed seeds: the class answers as a second model, written apart from it, does. */
public final class ModelTest {
    private static final long DAY = 86400;
    private static final long LATEST = 1000000000000L;
    private static final long THROWS_ARITHMETIC = -1001;
    private static final long THROWS_INDEX = -1002;
    private static final long THROWS_OTHER = -1003;
    private static final int MOST_CALLS = 512;

    // A way with the steps that are asked behind it.
    private static final int CALLS_OF_A_WAY = 124;

    private static int wrong = 0;
    private static long told = 0;
    private static long longWays = 0;

    /** The document's words, with no care for speed. */
    private static final class Model {
        final List<long[]> pieces = new ArrayList<>();
        final List<long[]> stops = new ArrayList<>();
        final Map<Integer, long[]> gates = new HashMap<>();
        final Set<List<Integer>> barred = new HashSet<>();
        List<Integer> steps = new ArrayList<>();

        boolean isPiece(int i) {
            return 0 <= i && i < pieces.size();
        }

        boolean isStop(int i) {
            return 0 <= i && i < stops.size();
        }

        long piece(int a, int b, long length, long speed) {
            if (a < 0 || a > 59 || b < 0 || b > 59) {
                return -11;
            }
            if (length < 1 || length > 10000 || speed < 0 || speed > 1000) {
                return -12;
            }
            if (pieces.size() == 120) {
                return -14;
            }
            if (speed == 0) {
                return THROWS_ARITHMETIC;
            }
            pieces.add(new long[] {a, b, length, speed});
            return pieces.size() - 1;
        }

        long turn(int from, int to, boolean bar) {
            if (!isPiece(from) || !isPiece(to)) {
                return -11;
            }
            if (pieces.get(from)[1] != pieces.get(to)[0]) {
                return -13;
            }
            if (bar) {
                barred.add(List.of(from, to));
            } else {
                barred.remove(List.of(from, to));
            }
            return barred.size();
        }

        long stop(int piece, int side, long at) {
            if (!isPiece(piece)) {
                return -11;
            }
            if ((side != 0 && side != 1) || at < 0 || at > pieces.get(piece)[2]) {
                return -12;
            }
            if (stops.size() == 100) {
                return -14;
            }
            stops.add(new long[] {piece, side, at});
            return stops.size() - 1;
        }

        long gate(int piece, long open, long close) {
            if (!isPiece(piece)) {
                return -11;
            }
            if (open == 0 && close == 0) {
                gates.remove(piece);
                return 0;
            }
            if (!(0 <= open && open < close && close <= DAY)) {
                return -12;
            }
            gates.put(piece, new long[] {open, close});
            return 1;
        }

        long change(int piece, long speed) {
            if (!isPiece(piece)) {
                return -11;
            }
            if (speed < 1 || speed > 1000) {
                return -12;
            }
            long before = pieces.get(piece)[3];
            pieces.get(piece)[3] = speed;
            return before;
        }

        long piece2(int i) {
            return isPiece(i) ? 60 * pieces.get(i)[0] + pieces.get(i)[1] : THROWS_INDEX;
        }

        long step(int i) {
            return 0 <= i && i < steps.size() ? steps.get(i) : -1;
        }

        long service(int piece, int kind) {
            if (!isPiece(piece)) {
                return 0;
            }
            boolean answer = false;
            if (kind == 0 || kind == 1) {
                for (long[] s : stops) {
                    answer |= s[0] == piece && s[1] == kind;
                }
            } else if (kind == 2) {
                answer = gates.containsKey(piece);
            } else if (kind == 3) {
                for (int q = 0; q < pieces.size(); q++) {
                    answer |= follows(piece, q);
                }
            }
            return answer ? 1 : 0;
        }

        boolean turnIsNone(int from, int to) {
            return isPiece(from) && isPiece(to) && pieces.get(from)[1] != pieces.get(to)[0];
        }

        boolean follows(int p, int q) {
            return pieces.get(p)[1] == pieces.get(q)[0] && !barred.contains(List.of(p, q));
        }

        long seconds(int p, long metres) {
            long speed = pieces.get(p)[3];
            long n = 10 * metres / speed;
            return n * speed == 10 * metres ? n : n + 1;
        }

        long entry(int p, long time) {
            long[] hours = gates.get(p);
            if (hours == null) {
                return time;
            }
            for (long day = time / DAY * DAY; ; day += DAY) {
                long earliest = Math.max(time, day + hours[0]);
                if (earliest < day + hours[1]) {
                    return earliest;
                }
            }
        }

        long across(long[] stop) {
            return 15 * stop[1];
        }

        /** The least times of entering each piece, by going over all turns until nothing changes; null for never. */
        Long[] leastEntries(int first, long restDone) {
            Long[] least = new Long[pieces.size()];
            boolean changed = true;
            while (changed) {
                changed = false;
                for (int p = 0; p < least.length; p++) {
                    Long done = leastDone(p, first, restDone, least);
                    for (int q = 0; done != null && q < least.length; q++) {
                        if (follows(p, q) && (least[q] == null || entry(q, done) < least[q])) {
                            least[q] = entry(q, done);
                            changed = true;
                        }
                    }
                }
            }
            return least;
        }

        Long leastDone(int p, int first, long restDone, Long[] least) {
            Long whole = least[p] == null ? null : Long.valueOf(least[p] + seconds(p, pieces.get(p)[2]));
            if (p != first) {
                return whole;
            }
            return whole == null || restDone <= whole ? Long.valueOf(restDone) : whole;
        }

        long way(int from, int to, long t, boolean keep) {
            if (!isStop(from) || !isStop(to)) {
                return -11;
            }
            if (t < 0 || t > LATEST) {
                return -12;
            }
            long[] a = stops.get(from);
            long[] b = stops.get(to);
            int first = (int) a[0];
            int last = (int) b[0];
            long leaving = t + across(a);
            long restDone = leaving + seconds(first, pieces.get(first)[2] - a[2]);
            Long[] least = leastEntries(first, restDone);
            long round = least[last] == null ? -1 : least[last] + seconds(last, b[2]) + across(b);
            long straight = first == last && a[2] <= b[2] ? leaving + seconds(first, b[2] - a[2]) + across(b) : -1;
            boolean isStraight = straight >= 0 && (round < 0 || straight <= round);
            long arrival = isStraight ? straight : round;
            if (keep) {
                steps = arrival < 0 ? new ArrayList<>()
                        : isStraight ? new ArrayList<>(List.of(first)) : back(first, restDone, last, least);
            }
            return arrival;
        }

        List<Integer> back(int first, long restDone, int last, Long[] least) {
            List<Integer> found = new ArrayList<>();
            found.add(last);
            int piece = last;
            do {
                int before = -1;
                for (int p = pieces.size() - 1; p >= 0; p--) {
                    Long done = leastDone(p, first, restDone, least);
                    if (done != null && follows(p, piece) && entry(piece, done) == least[piece]) {
                        before = p;
                    }
                }
                piece = before;
                found.add(piece);
            } while (piece != first);
            Collections.reverse(found);
            return found;
        }

        /** The least arrival over every way that enters no piece twice, each one walked. */
        long leastOfAll(int from, int to, long t) {
            long[] a = stops.get(from);
            long[] b = stops.get(to);
            long leaving = t + across(a);
            long best = Long.MAX_VALUE;
            int first = (int) a[0];
            if (a[0] == b[0] && a[2] <= b[2]) {
                best = leaving + seconds(first, b[2] - a[2]) + across(b);
            }
            long done = leaving + seconds(first, pieces.get(first)[2] - a[2]);
            best = Math.min(best, walk(first, done, b, new boolean[pieces.size()]));
            return best == Long.MAX_VALUE ? -1 : best;
        }

        long walk(int p, long done, long[] goal, boolean[] used) {
            long best = Long.MAX_VALUE;
            for (int q = 0; q < pieces.size(); q++) {
                if (used[q] || !follows(p, q)) {
                    continue;
                }
                long entry = entry(q, done);
                if (q == goal[0]) {
                    best = Math.min(best, entry + seconds(q, goal[2]) + across(goal));
                }
                used[q] = true;
                best = Math.min(best, walk(q, entry + seconds(q, pieces.get(q)[2]), goal, used));
                used[q] = false;
            }
            return best;
        }

        /** When one arrives who goes the told steps. */
        long along(List<Integer> path, int from, int to, long t) {
            long[] a = stops.get(from);
            long[] b = stops.get(to);
            long time = t + across(a);
            int first = path.get(0);
            if (path.size() == 1) {
                return time + seconds(first, b[2] - a[2]) + across(b);
            }
            time += seconds(first, pieces.get(first)[2] - a[2]);
            for (int i = 1; i < path.size(); i++) {
                int p = path.get(i);
                if (!follows(path.get(i - 1), p)) {
                    return -1;
                }
                boolean isLast = i == path.size() - 1;
                time = entry(p, time) + seconds(p, isLast ? b[2] : pieces.get(p)[2]);
            }
            return time + across(b);
        }
    }

    /** One run: the same calls on both. */
    private static final class Run {
        final int seed;
        final Random random;
        final StreetGraph graph = new StreetGraph();
        final Model model = new Model();
        final int crossings;
        final int mostPieces;
        final boolean wild;
        final int maxLength;
        final int[] speeds;
        int calls = 0;

        Run(int seed, int crossings, int mostPieces, boolean wild) {
            this.seed = seed;
            this.random = new Random(seed);
            this.crossings = crossings;
            this.mostPieces = mostPieces;
            this.wild = wild;
            this.maxLength = new int[] {2, 5, 40, 10000}[random.nextInt(4)];
            this.speeds = new int[][] {{10}, {10, 20}, {7, 10, 30}, {1, 1000, 333}}[random.nextInt(4)];
        }

        void due(String call, long got, long want) {
            if (got != want) {
                wrong++;
                if (wrong < 50) {
                    System.out.println("seed " + seed + ": " + call + " answered " + got + ", due is " + want);
                }
            }
        }

        int near(int count) {
            if (wild && random.nextInt(12) == 0) {
                int[] odd = {-1, count, count + 1, 59, 60, 99, 100, 119, 120, Integer.MIN_VALUE, Integer.MAX_VALUE};
                return odd[random.nextInt(odd.length)];
            }
            return count == 0 ? 0 : random.nextInt(count);
        }

        long oddOr(long usual) {
            if (wild && random.nextInt(15) == 0) {
                long[] odd = {-1, 0, 1, 1000, 1001, 10000, 10001, 86399, 86400, 86401, LATEST, LATEST + 1,
                    Long.MIN_VALUE, Long.MAX_VALUE, 1L << 32};
                return odd[random.nextInt(odd.length)];
            }
            return usual;
        }

        long time() {
            switch (random.nextInt(6)) {
                case 0:
                    return 0;
                case 1:
                    return random.nextInt(60);
                case 2:
                    return DAY - random.nextInt(40);
                case 3:
                    return LATEST - random.nextInt(3);
                default:
                    return random.nextInt(3 * (int) DAY);
            }
        }

        void callPiece() {
            int a = near(crossings);
            int b = near(crossings);
            long length = oddOr(1 + random.nextInt(maxLength));
            long speed = oddOr(speeds[random.nextInt(speeds.length)]);
            long got;
            try {
                got = graph.piece(a, b, length, speed);
            } catch (ArithmeticException e) {
                got = THROWS_ARITHMETIC;
            }
            due("piece(" + a + ", " + b + ", " + length + ", " + speed + ")", got, model.piece(a, b, length, speed));
        }

        void callTurn() {
            int from = near(model.pieces.size());
            int to = near(model.pieces.size());
            for (int i = 0; i < 20 && model.turnIsNone(from, to); i++) {
                to = near(model.pieces.size());
            }
            boolean bar = random.nextInt(3) > 0;
            due("turn(" + from + ", " + to + ", " + bar + ")", graph.turn(from, to, bar), model.turn(from, to, bar));
        }

        void callStop() {
            int piece = near(model.pieces.size());
            int side = wild && random.nextInt(15) == 0 ? random.nextInt(5) - 2 : random.nextInt(2);
            int length = model.isPiece(piece) ? (int) model.pieces.get(piece)[2] : 5;
            long at = oddOr(random.nextInt(4) == 0 ? length * (long) random.nextInt(2) : random.nextInt(length + 1));
            due("stop(" + piece + ", " + side + ", " + at + ")", graph.stop(piece, side, at),
                    model.stop(piece, side, at));
        }

        void callWay() {
            int from = near(model.stops.size());
            int to = near(model.stops.size());
            long t = oddOr(time());
            String call = "way(" + from + ", " + to + ", " + t + ")";
            long want = model.way(from, to, t, true);
            due(call, graph.way(from, to, t), want);
            List<Integer> path = new ArrayList<>();
            for (int i = 0; i <= model.steps.size(); i++) {
                calls++;
                int got = graph.step(i);
                due(call + ", step(" + i + ")", got, model.step(i));
                if (got != -1) {
                    path.add(got);
                }
            }
            if (want >= 0) {
                told++;
                longWays += path.size() > 3 ? 1 : 0;
                due(call + ", gone along " + path, model.along(path, from, to, t), want);
            }
            if (model.isStop(from) && model.isStop(to) && t >= 0 && t <= LATEST && model.pieces.size() <= 7) {
                due(call + " of all ways", want, model.leastOfAll(from, to, t));
            }
        }

        void callGate() {
            int piece = near(model.pieces.size());
            long open = random.nextInt(3) == 0 ? random.nextInt(60) : random.nextInt((int) DAY);
            long close = Math.min(DAY, open + 1 + (random.nextBoolean() ? random.nextInt(30) : random.nextInt(40000)));
            if (random.nextInt(4) == 0) {
                open = 0;
                close = 0;
            }
            open = oddOr(open);
            close = oddOr(close);
            due("gate(" + piece + ", " + open + ", " + close + ")", graph.gate(piece, open, close),
                    model.gate(piece, open, close));
        }

        void callChange() {
            int piece = near(model.pieces.size());
            long speed = oddOr(speeds[random.nextInt(speeds.length)]);
            due("change(" + piece + ", " + speed + ")", graph.change(piece, speed), model.change(piece, speed));
        }

        void callTable() {
            int i = near(model.stops.size());
            int j = near(model.stops.size());
            due("table(" + i + ", " + j + ")", graph.table(i, j), model.way(i, j, 0, false));
        }

        void callPiece2() {
            int i = near(model.pieces.size());
            long got;
            try {
                got = graph.piece2(i);
            } catch (ArrayIndexOutOfBoundsException e) {
                got = THROWS_INDEX;
            }
            due("piece2(" + i + ")", got, model.piece2(i));
        }

        void callService() {
            int piece = near(model.pieces.size());
            int kind = random.nextInt(6) - 1;
            due("service(" + piece + ", " + kind + ")", graph.service(piece, kind) ? 1 : 0,
                    model.service(piece, kind));
        }

        void callStep() {
            int i = near(model.steps.size());
            due("step(" + i + ")", graph.step(i), model.step(i));
        }

        void oneCall(int kind) {
            calls++;
            switch (kind) {
                case 0: case 1:
                    if (model.pieces.size() < mostPieces || wild && mostPieces >= 120) {
                        callPiece();
                    }
                    break;
                case 2: case 3: callTurn(); break;
                case 4: callStop(); break;
                case 5: case 6: case 7: callWay(); break;
                case 8: callGate(); break;
                case 9: callChange(); break;
                case 10: callTable(); break;
                case 11: callPiece2(); break;
                case 12: callService(); break;
                default: callStep();
            }
        }

        void build() {
            for (int i = 0; i < mostPieces; i++) {
                callPiece();
            }
            for (int i = 0; i < 6; i++) {
                callStop();
            }
            calls += mostPieces + 6;
        }

        void calls(int count) {
            try {
                build();
                // Nothing is promised of an object behind its 512th call.
                for (int i = 0; i < count && calls + CALLS_OF_A_WAY <= MOST_CALLS; i++) {
                    oneCall(random.nextInt(14));
                }
            } catch (RuntimeException e) {
                due("a call that throws " + e, THROWS_OTHER, 0);
            }
        }
    }

    public static void main(String[] args) {
        for (int seed = 0; seed < 3000; seed++) {
            new Run(seed, 1 + seed % 4, 2 + seed % 6, seed % 3 == 0).calls(60);
        }
        for (int seed = 3000; seed < 3300; seed++) {
            new Run(seed, 3 + seed % 10, 10 + seed % 20, seed % 3 == 0).calls(100);
        }
        for (int seed = 4000; seed < 4030; seed++) {
            new Run(seed, 5 + seed % 56, 120, seed % 2 == 0).calls(250);
        }
        System.out.println(told + " ways were told, " + longWays + " of more than three pieces");
        System.out.println(wrong == 0 ? "all answers are the model's" : wrong + " answers are not the model's");
        if (wrong != 0 || told < 1000 || longWays < 100) {
            System.exit(1);
        }
    }
}
