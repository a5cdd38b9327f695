import java.util.function.Supplier;
import java.util.function.ToLongFunction;

/** "Of several the first one here", and "A call that is refused, or throws, changes nothing". */
public final class RefusalTest {
    private static final int UNKNOWN = StreetGraph.UNKNOWN;
    private static final int OUTSIDE = StreetGraph.OUTSIDE;
    private static final int STATE = StreetGraph.STATE;
    private static final int ROOM = StreetGraph.ROOM;
    private static final long THROWS = -1000;
    private static final long DAY = 86400;
    private static final long LATEST = 1000000000000L;
    private static final int MOST_CALLS = 512;

    private static int refused = 0;
    private static int wrong = 0;

    private static void tell(String what, Object got, Object want) {
        wrong++;
        System.out.println(what + " answered " + got + ", due is " + want);
    }

    /** Four pieces, two of them a ring, with a bar, a gate and four stops; the told way leads over three pieces. */
    private static StreetGraph usual() {
        StreetGraph g = new StreetGraph();
        g.piece(0, 1, 40, 10);
        g.piece(1, 0, 30, 20);
        g.piece(1, 2, 20, 30);
        g.piece(2, 2, 10, 40);
        g.stop(0, 0, 20);
        g.stop(0, 1, 10);
        g.stop(2, 1, 5);
        g.stop(3, 0, 0);
        g.turn(3, 3, true);
        g.gate(1, 100, 200);
        g.way(0, 1, 0);
        return g;
    }

    private static StreetGraph fullOfPieces() {
        StreetGraph g = usual();
        for (int i = 4; i < 120; i++) {
            g.piece(5, 6, 7, 8);
        }
        return g;
    }

    private static StreetGraph fullOfStops() {
        StreetGraph g = usual();
        for (int i = 4; i < 100; i++) {
            g.stop(1, 0, 7);
        }
        return g;
    }

    private static StreetGraph empty() {
        return new StreetGraph();
    }

    /** A way that is none was told latest. */
    private static StreetGraph untold() {
        StreetGraph g = usual();
        g.way(2, 0, 0);
        return g;
    }

    /** Counts the calls of one object, because nothing is promised of it behind the 512th. */
    private static final class Trace {
        final StreetGraph g;
        final StringBuilder text = new StringBuilder();
        int calls = 0;

        Trace(StreetGraph g) {
            this.g = g;
        }

        void add(long answer) {
            calls++;
            text.append(answer).append(' ');
        }

        void steps() {
            for (int i = 0; i < 5; i++) {
                add(g.step(i));
            }
        }

        void pieces() {
            for (int i = 0; i < 4; i++) {
                add(piece2(g, i));
                for (int kind = 0; kind < 4; kind++) {
                    add(g.service(i, kind) ? 1 : 0);
                }
            }
            for (int i = 4; i < 7; i++) {
                add(piece2(g, i));
            }
            add(piece2(g, 119));
            add(piece2(g, 120));
        }

        void ways() {
            long[] times = {0, 150, LATEST};
            for (int i = 0; i < 16; i++) {
                add(g.table(i / 4, i % 4));
                add(g.way(i / 4, i % 4, times[i % 3]));
                steps();
            }
            add(g.table(4, 0));
            add(g.table(100, 0));
        }

        void turns() {
            for (int i = 0; i < 16; i++) {
                add(g.turn(i / 4, i % 4, false));
            }
        }

        void speeds() {
            for (int i = 0; i < 5; i++) {
                add(g.change(i, 5));
            }
        }

        void nextNumbers() {
            add(g.stop(0, 0, 0));
            add(g.piece(0, 1, 1, 1));
            add(g.stop(4, 0, 0));
            add(g.way(0, 4, 0));
            steps();
        }

        String all() {
            steps();
            pieces();
            ways();
            turns();
            speeds();
            ways();
            nextNumbers();
            return text.toString();
        }
    }

    private static long piece(StreetGraph g, int a, int b, long length, long speed) {
        try {
            return g.piece(a, b, length, speed);
        } catch (ArithmeticException e) {
            return THROWS;
        }
    }

    private static long piece2(StreetGraph g, int i) {
        try {
            return g.piece2(i);
        } catch (ArrayIndexOutOfBoundsException e) {
            return THROWS;
        }
    }

    /** The call is answered so, and its object goes on as one does that never had it. */
    private static void due(String what, Supplier<StreetGraph> world, ToLongFunction<StreetGraph> call, long want) {
        refused++;
        StreetGraph g = world.get();
        long got = call.applyAsLong(g);
        if (got != want) {
            tell(what, got, want);
        }
        Trace with = new Trace(g);
        Trace without = new Trace(world.get());
        String after = with.all();
        String due = without.all();
        if (!after.equals(due)) {
            tell(what + " and then all there is to ask", after, due);
        }
        // A world takes 130 calls at most before the trace.
        if (with.calls + 130 > MOST_CALLS) {
            tell("the trace", with.calls, "at most " + (MOST_CALLS - 130));
        }
    }

    private static void pieceInEachWorld(Supplier<StreetGraph> world) {
        due("piece, no crossing", world, g -> piece(g, 60, 0, 1, 1), UNKNOWN);
        due("piece, no crossing -1", world, g -> piece(g, 0, -1, 1, 1), UNKNOWN);
        due("piece, UNKNOWN before OUTSIDE by length", world, g -> piece(g, 0, 60, 0, 1), UNKNOWN);
        due("piece, UNKNOWN before OUTSIDE by speed", world, g -> piece(g, -1, 0, 1, 1001), UNKNOWN);
        due("piece, UNKNOWN before the throw", world, g -> piece(g, 60, 60, 1, 0), UNKNOWN);
        due("piece, too short", world, g -> piece(g, 0, 1, 0, 1), OUTSIDE);
        due("piece, too long", world, g -> piece(g, 0, 1, 10001, 1), OUTSIDE);
        due("piece, too slow", world, g -> piece(g, 0, 1, 1, -1), OUTSIDE);
        due("piece, too fast", world, g -> piece(g, 0, 1, 1, 1001), OUTSIDE);
        due("piece, OUTSIDE before the throw", world, g -> piece(g, 0, 1, 0, 0), OUTSIDE);
        due("piece, OUTSIDE by length before the throw", world, g -> piece(g, 0, 1, 10001, 0), OUTSIDE);
    }

    private static void pieces() {
        pieceInEachWorld(RefusalTest::usual);
        pieceInEachWorld(RefusalTest::empty);
        pieceInEachWorld(RefusalTest::fullOfPieces);
        due("piece of speed 0", RefusalTest::usual, g -> piece(g, 0, 1, 1, 0), THROWS);
        due("the first piece of speed 0", RefusalTest::empty, g -> piece(g, 0, 1, 10000, 0), THROWS);
        due("piece, full", RefusalTest::fullOfPieces, g -> piece(g, 0, 1, 1, 1), ROOM);
        due("piece, ROOM before the throw", RefusalTest::fullOfPieces, g -> piece(g, 0, 1, 1, 0), ROOM);
    }

    private static void turns() {
        due("turn, no first", RefusalTest::usual, g -> g.turn(4, 0, true), UNKNOWN);
        due("turn, no second", RefusalTest::usual, g -> g.turn(1, 4, true), UNKNOWN);
        due("turn, -1", RefusalTest::usual, g -> g.turn(-1, 0, false), UNKNOWN);
        due("turn, to -1", RefusalTest::usual, g -> g.turn(0, -1, false), UNKNOWN);
        due("turn, neither", RefusalTest::usual, g -> g.turn(4, 5, true), UNKNOWN);
        due("turn, full", RefusalTest::fullOfPieces, g -> g.turn(1, 120, true), UNKNOWN);
        due("turn, empty", RefusalTest::empty, g -> g.turn(0, 0, true), UNKNOWN);
        due("turn, not joined", RefusalTest::usual, g -> g.turn(0, 3, true), STATE);
        due("turn, not joined, to itself", RefusalTest::usual, g -> g.turn(0, 0, true), STATE);
        due("turn, not joined, free", RefusalTest::usual, g -> g.turn(3, 0, false), STATE);
    }

    private static void stopInEachWorld(Supplier<StreetGraph> world) {
        due("stop, no piece", world, g -> g.stop(4, 0, 0), UNKNOWN);
        due("stop, piece -1", world, g -> g.stop(-1, 1, 0), UNKNOWN);
        due("stop, UNKNOWN before OUTSIDE by side", world, g -> g.stop(4, 2, 0), UNKNOWN);
        due("stop, UNKNOWN before OUTSIDE by at", world, g -> g.stop(-1, 0, -1), UNKNOWN);
        due("stop, side 2", world, g -> g.stop(0, 2, 0), OUTSIDE);
        due("stop, side -1", world, g -> g.stop(0, -1, 0), OUTSIDE);
        due("stop, at -1", world, g -> g.stop(0, 0, -1), OUTSIDE);
        due("stop, at 41", world, g -> g.stop(0, 1, 41), OUTSIDE);
    }

    private static void stops() {
        stopInEachWorld(RefusalTest::usual);
        stopInEachWorld(RefusalTest::fullOfStops);
        due("stop, full", RefusalTest::fullOfStops, g -> g.stop(0, 0, 0), ROOM);
        due("stop, full, at the end", RefusalTest::fullOfStops, g -> g.stop(3, 1, 10), ROOM);
        due("stop, empty", RefusalTest::empty, g -> g.stop(0, 0, 0), UNKNOWN);
        due("stop, full of pieces", RefusalTest::fullOfPieces, g -> g.stop(120, 0, 0), UNKNOWN);
    }

    private static void wayInEachWorld(Supplier<StreetGraph> world) {
        due("way, no first", world, g -> g.way(4, 0, 0), UNKNOWN);
        due("way, no second", world, g -> g.way(0, 4, 0), UNKNOWN);
        due("way, stop -1", world, g -> g.way(-1, -1, 0), UNKNOWN);
        due("way, UNKNOWN before OUTSIDE", world, g -> g.way(4, 0, -1), UNKNOWN);
        due("way, UNKNOWN before OUTSIDE, second", world, g -> g.way(0, 4, LATEST + 1), UNKNOWN);
        due("way, t -1", world, g -> g.way(0, 2, -1), OUTSIDE);
        due("way, t 10^12 and 1", world, g -> g.way(0, 2, LATEST + 1), OUTSIDE);
        due("way that is none, t -1", world, g -> g.way(2, 0, -1), OUTSIDE);
        due("way on one piece, t -1", world, g -> g.way(1, 0, -1), OUTSIDE);
        due("table, no first", world, g -> g.table(4, 0), UNKNOWN);
        due("table, no second", world, g -> g.table(0, 4), UNKNOWN);
        due("table, stop -1", world, g -> g.table(-1, -1), UNKNOWN);
    }

    private static void ways() {
        wayInEachWorld(RefusalTest::usual);
        wayInEachWorld(RefusalTest::untold);
        due("way, empty", RefusalTest::empty, g -> g.way(0, 0, 0), UNKNOWN);
        due("way, full", RefusalTest::fullOfStops, g -> g.way(0, 100, 0), UNKNOWN);
        due("table, empty", RefusalTest::empty, g -> g.table(0, 0), UNKNOWN);
        due("table, full", RefusalTest::fullOfStops, g -> g.table(100, 0), UNKNOWN);
    }

    private static void gates() {
        due("gate, no piece", RefusalTest::usual, g -> g.gate(4, 5, 6), UNKNOWN);
        due("gate, no piece, none", RefusalTest::usual, g -> g.gate(-1, 0, 0), UNKNOWN);
        due("gate, UNKNOWN before OUTSIDE", RefusalTest::usual, g -> g.gate(4, 6, 5), UNKNOWN);
        due("gate, full", RefusalTest::fullOfPieces, g -> g.gate(120, 5, 6), UNKNOWN);
        due("gate, empty", RefusalTest::empty, g -> g.gate(0, 0, 0), UNKNOWN);
        for (int i = 0; i < 2; i++) {
            // Piece 1 has a gate, piece 0 has none.
            int piece = i;
            due("gate, 5 to 5", RefusalTest::usual, g -> g.gate(piece, 5, 5), OUTSIDE);
            due("gate, 6 to 5", RefusalTest::usual, g -> g.gate(piece, 6, 5), OUTSIDE);
            due("gate, -1 to 5", RefusalTest::usual, g -> g.gate(piece, -1, 5), OUTSIDE);
            due("gate, 5 to 0", RefusalTest::usual, g -> g.gate(piece, 5, 0), OUTSIDE);
            due("gate, 5 to 86401", RefusalTest::usual, g -> g.gate(piece, 5, DAY + 1), OUTSIDE);
            due("gate, 86400 to 86400", RefusalTest::usual, g -> g.gate(piece, DAY, DAY), OUTSIDE);
        }
    }

    private static void changes() {
        due("change, no piece", RefusalTest::usual, g -> g.change(4, 5), UNKNOWN);
        due("change, piece -1", RefusalTest::usual, g -> g.change(-1, 5), UNKNOWN);
        due("change, UNKNOWN before OUTSIDE", RefusalTest::usual, g -> g.change(4, 0), UNKNOWN);
        due("change, full", RefusalTest::fullOfPieces, g -> g.change(120, 5), UNKNOWN);
        due("change, empty", RefusalTest::empty, g -> g.change(0, 5), UNKNOWN);
        due("change to 0", RefusalTest::usual, g -> g.change(0, 0), OUTSIDE);
        due("change to -1", RefusalTest::usual, g -> g.change(1, -1), OUTSIDE);
        due("change to 1001", RefusalTest::usual, g -> g.change(2, 1001), OUTSIDE);
    }

    private static void questions() {
        due("piece2, behind the last", RefusalTest::usual, g -> piece2(g, 4), THROWS);
        due("piece2 of -1", RefusalTest::usual, g -> piece2(g, -1), THROWS);
        due("piece2, empty", RefusalTest::empty, g -> piece2(g, 0), THROWS);
        due("piece2, full", RefusalTest::fullOfPieces, g -> piece2(g, 120), THROWS);
        due("step behind the last", RefusalTest::usual, g -> g.step(3), StreetGraph.NONE);
        due("step -1", RefusalTest::usual, g -> g.step(-1), StreetGraph.NONE);
        due("service, no piece", RefusalTest::usual, g -> g.service(4, 3) ? 1 : 0, 0);
        due("service, another kind", RefusalTest::usual, g -> g.service(0, 4) ? 1 : 0, 0);
        // Not refused, but it leaves all as it is, too.
        due("table", RefusalTest::usual, g -> g.table(0, 2), 20 + 2 + 15);
        due("table, none", RefusalTest::usual, g -> g.table(2, 0), StreetGraph.NONE);
    }

    public static void main(String[] args) {
        pieces();
        turns();
        stops();
        ways();
        gates();
        changes();
        questions();
        System.out.println(wrong == 0 ? "all " + refused + " refusals are as due" : wrong + " are not as due");
        if (wrong != 0) {
            System.exit(1);
        }
    }
}
