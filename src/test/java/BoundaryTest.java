/** A test of its own for each sentence of the document that names a boundary case, in the document's order. */
public final class BoundaryTest {
    private static final int NONE = StreetGraph.NONE;
    private static final int UNKNOWN = StreetGraph.UNKNOWN;
    private static final int OUTSIDE = StreetGraph.OUTSIDE;
    private static final int STATE = StreetGraph.STATE;
    private static final int ROOM = StreetGraph.ROOM;
    private static final long DAY = 86400;
    private static final long LATEST = 1000000000000L;
    private static final long THROWS = -1000;
    private static final int[] NEVER_NUMBERS = {-1, Integer.MIN_VALUE, Integer.MAX_VALUE, 1 << 16, 1 << 30};

    private static int sentences = 0;
    private static int wrong = 0;
    private static String sentence = "";

    private static void holds(String words, Runnable test) {
        sentence = words;
        sentences++;
        try {
            test.run();
        } catch (RuntimeException e) {
            wrong++;
            System.out.println("\"" + sentence + "\": a call throws " + e);
        }
    }

    private static void due(String what, long got, long want) {
        if (got != want) {
            wrong++;
            System.out.println("\"" + sentence + "\": " + what + " answered " + got + ", due is " + want);
        }
    }

    private static void due(String what, boolean got, boolean want) {
        due(what, got ? 1 : 0, want ? 1 : 0);
    }

    private static void dueSteps(String what, StreetGraph g, int... pieces) {
        for (int i = 0; i < pieces.length; i++) {
            due(what + ", step " + i, g.step(i), pieces[i]);
        }
        due(what + ", the step behind the last", g.step(pieces.length), NONE);
    }

    private static long pieceOrThrow(StreetGraph g, int a, int b, long length, long speed) {
        try {
            return g.piece(a, b, length, speed);
        } catch (ArithmeticException e) {
            return THROWS;
        }
    }

    private static long piece2OrThrow(StreetGraph g, int i) {
        try {
            return g.piece2(i);
        } catch (ArrayIndexOutOfBoundsException e) {
            return THROWS;
        }
    }

    /** Pieces 0: 0 -> 1, 1: 1 -> 2, .. each of 10 metres, 1 metre a second. */
    private static StreetGraph line(int pieces) {
        StreetGraph g = new StreetGraph();
        for (int i = 0; i < pieces; i++) {
            g.piece(i, i + 1, 10, 10);
        }
        return g;
    }

    /** Stop 0 at the end of piece 0, stop 1 at the beginning of piece 1: a way takes no time but piece 1's gate. */
    private static StreetGraph gateAlone(long open, long close) {
        StreetGraph g = line(2);
        g.stop(0, 0, 10);
        g.stop(1, 0, 0);
        g.gate(1, open, close);
        return g;
    }

    private static StreetGraph fullOfPieces() {
        StreetGraph g = new StreetGraph();
        for (int i = 0; i < 120; i++) {
            g.piece(i % 60, (i + 1) % 60, 10, 10);
        }
        return g;
    }

    private static StreetGraph fullOfStops() {
        StreetGraph g = line(2);
        for (int i = 0; i < 100; i++) {
            g.stop(i % 2, i % 2, i % 11);
        }
        return g;
    }

    // What it is

    private static void the512thCall() {
        StreetGraph g = fullOfPieces();
        for (int i = 0; i < 100; i++) {
            g.stop(i, 0, 0);
        }
        int calls = 220;
        while (calls < 511) {
            due("a way round", g.way(1, 0, 0), 590);
            calls++;
        }
        due("the 512th call", g.way(1, 0, LATEST), LATEST + 590);
    }

    // Terms

    private static void crossings() {
        StreetGraph g = new StreetGraph();
        due("from the first to the last", g.piece(0, 59, 1, 1), 0);
        due("from the last to the first", g.piece(59, 0, 1, 1), 1);
        due("from -1", g.piece(-1, 0, 1, 1), UNKNOWN);
        due("to -1", g.piece(0, -1, 1, 1), UNKNOWN);
        due("from 60", g.piece(60, 0, 1, 1), UNKNOWN);
        due("to 60", g.piece(0, 60, 1, 1), UNKNOWN);
        due("the first one's crossings", g.piece2(0), 59);
        due("the second one's crossings", g.piece2(1), 3540);
    }

    private static void piecesAtMost() {
        StreetGraph g = new StreetGraph();
        for (int i = 0; i < 120; i++) {
            due("a piece", g.piece(i % 60, 59 - i % 60, 10, 10), i);
        }
        due("piece 120", g.piece(0, 0, 10, 10), ROOM);
        due("the last one", g.piece2(119), 59 * 60);
        due("a stop on the last one", g.stop(119, 0, 10), 0);
    }

    private static void theSameCrossing() {
        StreetGraph g = new StreetGraph();
        due("a loop at the first crossing", g.piece(0, 0, 10, 10), 0);
        due("a loop at the last one", g.piece(59, 59, 10, 10), 1);
        g.stop(0, 0, 10);
        g.stop(0, 0, 3);
        due("round", g.way(0, 1, 0), 3);
        dueSteps("round", g, 0, 0);
    }

    private static void aLoopsTurnToItself() {
        StreetGraph g = new StreetGraph();
        g.piece(5, 5, 10, 10);
        g.stop(0, 0, 7);
        g.stop(0, 1, 3);
        due("round", g.way(0, 1, 0), 3 + 3 + 15);
        dueSteps("round", g, 0, 0);
        due("barred", g.turn(0, 0, true), 1);
        due("round, barred", g.way(0, 1, 0), NONE);
        dueSteps("round, barred", g);
        due("straight on, barred", g.way(1, 0, 0), 15 + 4);
        dueSteps("straight on, barred", g, 0);
        due("a second loop there", g.piece(5, 5, 20, 10), 1);
        due("round over the second one", g.way(0, 1, 0), 3 + 20 + 3 + 15);
        dueSteps("round over the second one", g, 0, 1, 0);
        due("no more barred", g.turn(0, 0, false), 0);
        g.gate(0, 50, 60);
        due("round, its gate closed", g.way(0, 1, 0), 50 + 3 + 15);
        dueSteps("round, the wait as long over each, the first one's number less", g, 0, 0);
        due("round, its gate open", g.way(0, 1, 50), 53 + 3 + 15);
        due("from time 0 on", g.table(0, 1), 50 + 3 + 15);
    }

    private static void lengths() {
        StreetGraph g = new StreetGraph();
        due("1", g.piece(0, 1, 1, 1), 0);
        due("10000", g.piece(0, 1, 10000, 1), 1);
        due("0", g.piece(0, 1, 0, 1), OUTSIDE);
        due("10001", g.piece(0, 1, 10001, 1), OUTSIDE);
    }

    private static void speeds() {
        StreetGraph g = new StreetGraph();
        due("1", g.piece(0, 1, 10, 1), 0);
        due("1000", g.piece(0, 1, 10, 1000), 1);
        due("1001", g.piece(0, 1, 10, 1001), OUTSIDE);
        due("-1", g.piece(0, 1, 10, -1), OUTSIDE);
        due("the slowest one's", g.change(0, 5), 1);
        due("the fastest one's", g.change(1, 5), 1000);
    }

    private static long secondsOf(long metres, long speed) {
        StreetGraph g = new StreetGraph();
        g.piece(0, 0, 10000, speed);
        g.stop(0, 0, 0);
        g.stop(0, 0, metres);
        return g.way(0, 1, 0);
    }

    private static void roundedUp() {
        due("no metres", secondsOf(0, 1), 0);
        due("no metres of the fastest", secondsOf(0, 1000), 0);
        due("1 metre of the slowest", secondsOf(1, 1), 10);
        due("the whole of the slowest", secondsOf(10000, 1), 100000);
        due("1 metre of the fastest", secondsOf(1, 1000), 1);
        due("100 metres of the fastest", secondsOf(100, 1000), 1);
        due("101 metres of the fastest", secondsOf(101, 1000), 2);
        due("the whole of the fastest", secondsOf(10000, 1000), 100);
        due("9 metres of 3 a second", secondsOf(9, 30), 3);
        due("10 metres of 3 a second", secondsOf(10, 30), 4);
        due("8 metres of 3 a second", secondsOf(8, 30), 3);
        due("10000 metres of 999", secondsOf(10000, 999), 101);
    }

    private static void backToo() {
        StreetGraph g = new StreetGraph();
        g.piece(0, 1, 10, 10);
        g.piece(1, 0, 10, 10);
        g.stop(0, 0, 4);
        g.stop(1, 0, 3);
        due("back", g.way(0, 1, 0), 9);
        dueSteps("back", g, 0, 1);
        due("the turn back", g.turn(0, 1, true), 1);
        due("back, barred", g.way(0, 1, 0), NONE);
        dueSteps("back, barred", g);
        due("the turn at the other end is another one", g.way(1, 0, 0), 7 + 4);
    }

    private static void fromOpenOnAndBelowClose() {
        StreetGraph g = gateAlone(100, 200);
        due("a second before open", g.way(0, 1, 99), 100);
        due("at open", g.way(0, 1, 100), 100);
        due("a second behind open", g.way(0, 1, 101), 101);
        due("a second before close", g.way(0, 1, 199), 199);
        due("at close", g.way(0, 1, 200), DAY + 100);
        due("at open, days later", g.way(0, 1, 7 * DAY + 100), 7 * DAY + 100);
        due("at close, days later", g.way(0, 1, 7 * DAY + 200), 8 * DAY + 100);
        StreetGraph second = gateAlone(100, 101);
        due("open for a second", second.way(0, 1, 100), 100);
        due("a second too late", second.way(0, 1, 101), DAY + 100);
    }

    private static void ownPieceIsNotEntered() {
        StreetGraph g = line(1);
        g.piece(1, 0, 10, 10);
        g.stop(0, 0, 0);
        g.stop(0, 0, 10);
        g.stop(1, 0, 0);
        g.gate(0, 500, 501);
        due("straight on, its gate closed", g.way(0, 1, 0), 10);
        due("its rest, its gate closed", g.way(0, 2, 0), 10);
        due("from its beginning at another time", g.way(0, 2, 501), 511);
        due("again: its gate counts", g.way(1, 0, 0), 500);
        dueSteps("again", g, 0, 1, 0);
        due("again, at open", g.way(1, 0, 490), 500);
        due("again, too late", g.way(1, 0, 491), DAY + 500);
    }

    private static void waitsForTheNext() {
        StreetGraph g = gateAlone(86399, 86400);
        due("from midnight on to the day's last second", g.way(0, 1, 0), 86399);
        due("in the day's last second", g.way(0, 1, 86399), 86399);
        due("at the next midnight", g.way(0, 1, DAY), DAY + 86399);
        due("from the latest time on", g.way(0, 1, LATEST), LATEST - LATEST % DAY + 86399);
        StreetGraph first = gateAlone(0, 1);
        due("in the day's first second", first.way(0, 1, 0), 0);
        due("a second later", first.way(0, 1, 1), DAY);
        due("in the day's last second, for the first one", first.way(0, 1, 86399), DAY);
        due("at the next midnight, for the first one", first.way(0, 1, DAY), DAY);
    }

    private static void stopsAtMost() {
        StreetGraph g = line(1);
        for (int i = 0; i < 100; i++) {
            due("a stop", g.stop(0, i % 2, i % 11), i);
        }
        due("stop 100", g.stop(0, 0, 0), ROOM);
        due("the last one", g.way(99, 99, 0), 30);
        due("behind the last one", g.way(99, 100, 0), UNKNOWN);
    }

    private static void crossesTheStreet() {
        StreetGraph g = line(2);
        g.stop(0, 0, 4);
        g.stop(0, 1, 4);
        g.stop(1, 0, 3);
        g.stop(1, 1, 3);
        due("side 0 to side 0", g.way(0, 2, 0), 9);
        due("side 0 to side 1", g.way(0, 3, 0), 24);
        due("side 1 to side 0", g.way(1, 2, 0), 24);
        due("side 1 to side 1", g.way(1, 3, 0), 39);
        g.gate(1, 21, 22);
        due("15 before leaving, just in time for the gate", g.way(1, 2, 0), 24);
        due("15 before leaving, too late for the gate", g.way(1, 2, 1), DAY + 24);
        due("15 when arriving, behind the gate", g.way(0, 3, 15), 39);
    }

    private static void notBefore() {
        StreetGraph g = line(1);
        g.stop(0, 0, 5);
        g.stop(0, 0, 4);
        g.stop(0, 0, 6);
        g.stop(0, 0, 5);
        due("the same stop", g.way(0, 0, 8), 8);
        dueSteps("the same stop", g, 0);
        due("at the same metre", g.way(0, 3, 8), 8);
        dueSteps("at the same metre", g, 0);
        due("a metre behind", g.way(0, 2, 8), 9);
        dueSteps("a metre behind", g, 0);
        due("a metre before, and no way round", g.way(0, 1, 8), NONE);
        dueSteps("a metre before, and no way round", g);
        g.piece(1, 0, 10, 10);
        due("a metre before, round", g.way(0, 1, 8), 8 + 5 + 10 + 4);
        dueSteps("a metre before, round", g, 0, 1, 0);
        due("at the same metre, though there is a way round", g.way(0, 3, 8), 8);
        dueSteps("at the same metre, though there is a way round", g, 0);
    }

    private static void anySides() {
        StreetGraph g = line(1);
        g.stop(0, 0, 5);
        g.stop(0, 1, 5);
        g.stop(0, 0, 6);
        g.stop(0, 1, 6);
        due("side 0 to 0", g.way(0, 2, 0), 1);
        due("side 0 to 1", g.way(0, 3, 0), 16);
        due("side 1 to 0", g.way(1, 2, 0), 16);
        due("side 1 to 1", g.way(1, 3, 0), 31);
        due("over the street alone", g.way(0, 1, 0), 15);
        due("and back", g.way(1, 0, 0), 15);
        due("to itself at side 1", g.way(1, 1, 0), 30);
        dueSteps("to itself at side 1", g, 0);
        g.piece(1, 0, 1, 1000);
        due("to itself at side 1, though there is a way round", g.way(1, 1, 0), 30);
        dueSteps("to itself at side 1, though there is a way round", g, 0);
        g.gate(0, 500, 501);
        due("to itself at side 1, its gate closed", g.way(1, 1, 0), 30);
        due("to itself at side 1, from time 0 on", g.table(1, 1), 30);
        due("to itself at side 0, from time 0 on", g.table(0, 0), 0);
    }

    private static void noRestAndNoMetres() {
        StreetGraph g = line(3);
        g.stop(0, 0, 10);
        g.stop(1, 0, 0);
        g.stop(2, 0, 10);
        g.stop(0, 0, 0);
        due("no rest, no metres", g.way(0, 1, 6), 6);
        dueSteps("no rest, no metres", g, 0, 1);
        due("no rest, and the whole of the last", g.way(0, 2, 6), 26);
        due("the whole of the first, no metres", g.way(3, 1, 6), 16);
        due("the whole of all", g.way(3, 2, 6), 36);
        dueSteps("the whole of all", g, 0, 1, 2);
    }

    private static void enteredWhenTheOneBeforeIsDone() {
        StreetGraph g = line(4);
        g.stop(0, 0, 9);
        g.stop(3, 0, 0);
        g.gate(1, 1, 2);
        g.gate(2, 11, 12);
        g.gate(3, 21, 22);
        due("each gate as it opens", g.way(0, 1, 0), 21);
        due("a second late at the first gate", g.way(0, 1, 1), DAY + 21);
        g.gate(2, 10, 11);
        due("a second late at the second gate", g.way(0, 1, 0), DAY + 21);
        g.gate(3, 19, 20);
        due("a second late at the second gate and the third", g.way(0, 1, 0), 2 * DAY + 19);
        dueSteps("gate behind gate", g, 0, 1, 2, 3);
    }

    private static void onOnePieceIfThereIsOne() {
        StreetGraph g = new StreetGraph();
        g.piece(0, 0, 1, 1000);
        g.piece(0, 0, 1, 1000);
        g.stop(1, 0, 0);
        g.stop(1, 0, 1);
        due("from the beginning to the end", g.way(0, 1, 0), 1);
        dueSteps("from the beginning to the end", g, 1);
        due("from the end to the end", g.way(1, 1, 0), 0);
        dueSteps("from the end to the end", g, 1);
        due("from the end to the beginning", g.way(1, 0, 0), 0);
        dueSteps("from the end to the beginning", g, 1, 1);
    }

    /** Piece 3 leads to three pieces between crossings 1 and 2, of which each leads to piece 4. */
    private static StreetGraph threeBetween(long first, long second, long third) {
        StreetGraph g = new StreetGraph();
        g.piece(1, 2, first, 10);
        g.piece(1, 2, second, 10);
        g.piece(1, 2, third, 10);
        g.piece(0, 1, 10, 10);
        g.piece(2, 3, 10, 10);
        g.stop(3, 0, 10);
        g.stop(4, 0, 0);
        return g;
    }

    private static void theLeastNumber() {
        StreetGraph g = threeBetween(20, 20, 20);
        due("three alike", g.way(0, 1, 0), 20);
        dueSteps("three alike", g, 3, 0, 4);
        g = threeBetween(21, 20, 20);
        due("the first a second slower", g.way(0, 1, 0), 20);
        dueSteps("the first a second slower", g, 3, 1, 4);
        g = threeBetween(20, 20, 19);
        due("the third a second faster", g.way(0, 1, 0), 19);
        dueSteps("the third a second faster", g, 3, 2, 4);
        g.gate(4, 20, 21);
        due("all in time for a gate", g.way(0, 1, 0), 20);
        dueSteps("all in time for a gate", g, 3, 0, 4);
        g.gate(4, 19, 20);
        due("one in time for a gate", g.way(0, 1, 0), 19);
        dueSteps("one in time for a gate", g, 3, 2, 4);
        due("all too late for a gate", g.way(0, 1, 1), DAY + 19);
        dueSteps("all too late for a gate", g, 3, 0, 4);
    }

    private static void atTheirLeastTime() {
        StreetGraph g = threeBetween(20, 20, 20);
        g.gate(0, 30, 31);
        g.gate(4, 50, 60);
        due("entered late, done just in time", g.way(0, 1, 0), 50);
        dueSteps("entered late, done just in time", g, 3, 0, 4);
        g.gate(0, 31, 32);
        due("entered late, done a second too late", g.way(0, 1, 0), 50);
        dueSteps("entered late, done a second too late", g, 3, 1, 4);
    }

    private static void theWayBeginsThere() {
        StreetGraph g = new StreetGraph();
        g.piece(1, 1, 10, 10);
        g.piece(0, 1, 10, 10);
        g.piece(1, 1, 10, 10);
        g.piece(1, 2, 10, 10);
        g.stop(1, 0, 10);
        g.stop(3, 0, 0);
        g.stop(0, 0, 4);
        g.stop(2, 0, 4);
        g.gate(3, 100, 200);
        due("another one of a less number", g.way(0, 1, 0), 100);
        dueSteps("another one of a less number", g, 1, 0, 3);
        due("the loop of the least number", g.way(2, 1, 0), 100);
        dueSteps("the loop of the least number", g, 0, 3);
        due("the loop of the higher number", g.way(3, 1, 0), 100);
        dueSteps("the loop of the higher number", g, 2, 0, 3);
        due("nobody waits", g.way(0, 1, 191), 191);
        dueSteps("nobody waits", g, 1, 3);
        due("the other one done as it opens", g.way(0, 1, 90), 100);
        dueSteps("the other one done as it opens", g, 1, 0, 3);
        due("the other one done a second behind", g.way(0, 1, 91), 100);
        dueSteps("the other one done a second behind", g, 1, 3);
    }

    // Promises

    private static void noPiecesNoStops() {
        StreetGraph g = new StreetGraph();
        due("piece2 of 0", piece2OrThrow(g, 0), THROWS);
        for (int kind = -1; kind < 5; kind++) {
            due("service of 0", g.service(0, kind), false);
        }
        due("a stop on 0", g.stop(0, 0, 0), UNKNOWN);
        due("a turn from 0 to 0", g.turn(0, 0, true), UNKNOWN);
        due("a gate at 0", g.gate(0, 0, 0), UNKNOWN);
        due("0's speed", g.change(0, 1), UNKNOWN);
        due("a way from 0 to 0", g.way(0, 0, 0), UNKNOWN);
        due("from 0 to 0 in the table", g.table(0, 0), UNKNOWN);
        due("step 0", g.step(0), NONE);
        due("the first piece", g.piece(0, 1, 10, 10), 0);
        due("no stop yet", g.way(0, 0, 0), UNKNOWN);
        due("the first stop", g.stop(0, 0, 0), 0);
    }

    private static void pieceUnknown() {
        StreetGraph g = line(1);
        for (int no : new int[] {-1, 60, Integer.MIN_VALUE, Integer.MAX_VALUE}) {
            due("from " + no, g.piece(no, 0, 1, 1), UNKNOWN);
            due("to " + no, g.piece(0, no, 1, 1), UNKNOWN);
            due("from and to " + no, g.piece(no, no, 1, 1), UNKNOWN);
        }
        due("none of them is there", g.piece(0, 1, 1, 1), 1);
    }

    private static void pieceOutside() {
        StreetGraph g = line(1);
        for (long no : new long[] {0, -1, 10001, Long.MIN_VALUE, Long.MAX_VALUE, (1L << 32) + 1}) {
            due("length " + no, g.piece(0, 1, no, 1), OUTSIDE);
        }
        for (long no : new long[] {-1, 1001, Long.MIN_VALUE, Long.MAX_VALUE, (1L << 32) + 1, 1L << 32}) {
            due("speed " + no, g.piece(0, 1, 1, no), OUTSIDE);
        }
        due("none of them is there", g.piece(0, 1, 1, 1), 1);
    }

    private static void pieceRoom() {
        StreetGraph g = fullOfPieces();
        due("one more", g.piece(0, 0, 1, 1), ROOM);
        due("one more again", g.piece(0, 0, 1, 1), ROOM);
        due("none is there", piece2OrThrow(g, 120), THROWS);
    }

    private static void pieceOfSpeed0() {
        StreetGraph g = line(1);
        due("not refused", pieceOrThrow(g, 0, 1, 1, 0), THROWS);
        due("not refused, the longest", pieceOrThrow(g, 0, 1, 10000, 0), THROWS);
        due("no crossing", pieceOrThrow(g, 60, 1, 1, 0), UNKNOWN);
        due("too short", pieceOrThrow(g, 0, 1, 0, 0), OUTSIDE);
        due("too long", pieceOrThrow(g, 0, 1, 10001, 0), OUTSIDE);
        due("none of them is there", g.piece(0, 1, 1, 1), 1);
        due("no room", pieceOrThrow(fullOfPieces(), 0, 1, 1, 0), ROOM);
    }

    private static void turnCounts() {
        StreetGraph g = line(3);
        due("none, and none is taken away", g.turn(0, 1, false), 0);
        due("one", g.turn(0, 1, true), 1);
        due("the same one", g.turn(0, 1, true), 1);
        due("another one", g.turn(1, 2, true), 2);
        due("one less", g.turn(0, 1, false), 1);
        due("the same one less", g.turn(0, 1, false), 1);
        due("none left", g.turn(1, 2, false), 0);
    }

    private static void allTurnsBarred() {
        StreetGraph g = new StreetGraph();
        int n = 15;
        for (int i = 0; i < n; i++) {
            g.piece(0, 0, 10, 10);
        }
        for (int i = 0; i < n * n; i++) {
            due("a bar more", g.turn(i / n, i % n, true), i + 1);
        }
        due("nothing goes on", g.service(n - 1, 3), false);
        for (int i = 0; i < n * n; i++) {
            due("a bar less", g.turn(i / n, i % n, false), n * n - 1 - i);
        }
        due("all go on", g.service(n - 1, 3), true);
    }

    private static void eachTurnIsItsOwn() {
        StreetGraph g = new StreetGraph();
        for (int i = 0; i < 120; i++) {
            g.piece(0, 0, 10, 10);
        }
        int count = 0;
        for (int from : new int[] {0, 1, 119}) {
            for (int to = 0; to < 120; to++) {
                count++;
                due("a bar more, from " + from + " to " + to, g.turn(from, to, true), count);
            }
            due("nothing goes on from " + from, g.service(from, 3), false);
        }
        due("another one goes on", g.service(2, 3), true);
        due("the last but one goes on", g.service(118, 3), true);
    }

    private static void turnUnknown() {
        StreetGraph g = new StreetGraph();
        g.piece(0, 0, 10, 10);
        due("to the piece behind the last", g.turn(0, 1, true), UNKNOWN);
        due("from the piece behind the last", g.turn(1, 0, true), UNKNOWN);
        for (int no : NEVER_NUMBERS) {
            due("to " + no, g.turn(0, no, true), UNKNOWN);
            due("from " + no, g.turn(no, 0, true), UNKNOWN);
        }
        due("none is barred", g.turn(0, 0, false), 0);
        due("to the 121st", fullOfPieces().turn(59, 120, true), UNKNOWN);
    }

    private static void turnState() {
        StreetGraph g = line(3);
        due("over a piece", g.turn(0, 2, true), STATE);
        due("the other way round", g.turn(1, 0, true), STATE);
        due("a piece that is no loop to itself", g.turn(0, 0, true), STATE);
        due("not barred from now on", g.turn(0, 2, false), STATE);
        due("none is barred", g.turn(0, 1, false), 0);
        g.piece(1, 1, 10, 10);
        due("a loop to itself", g.turn(3, 3, true), 1);
    }

    private static void stopUnknown() {
        StreetGraph g = line(1);
        due("the piece behind the last", g.stop(1, 0, 0), UNKNOWN);
        for (int no : NEVER_NUMBERS) {
            due("piece " + no, g.stop(no, 0, 0), UNKNOWN);
        }
        due("none of them is there", g.stop(0, 0, 0), 0);
        due("piece 120", fullOfPieces().stop(120, 0, 0), UNKNOWN);
    }

    private static void stopOutside() {
        StreetGraph g = line(1);
        g.piece(1, 2, 1, 10);
        for (int no : new int[] {-1, 2, Integer.MIN_VALUE, Integer.MAX_VALUE}) {
            due("side " + no, g.stop(0, no, 0), OUTSIDE);
        }
        for (long no : new long[] {-1, 11, 10001, Long.MIN_VALUE, Long.MAX_VALUE, 1L << 32}) {
            due("at " + no, g.stop(0, 0, no), OUTSIDE);
        }
        due("at the other piece's metre", g.stop(1, 0, 2), OUTSIDE);
        due("at 0, side 0", g.stop(0, 0, 0), 0);
        due("at the piece's length, side 1", g.stop(0, 1, 10), 1);
        due("at the other piece's length", g.stop(1, 0, 1), 2);
    }

    private static void stopRoom() {
        StreetGraph g = fullOfStops();
        due("one more", g.stop(0, 0, 0), ROOM);
        due("one more again", g.stop(1, 1, 10), ROOM);
        due("none is there", g.way(0, 100, 0), UNKNOWN);
        due("none is there in the table", g.table(100, 0), UNKNOWN);
    }

    private static void wayNone() {
        StreetGraph g = line(2);
        g.piece(3, 4, 10, 10);
        g.stop(0, 0, 5);
        g.stop(1, 0, 5);
        g.stop(2, 0, 5);
        due("a way", g.way(0, 1, 0), 10);
        due("no piece leads there", g.way(0, 2, 0), NONE);
        dueSteps("no piece leads there", g);
        due("a way again", g.way(0, 1, 0), 10);
        due("against the pieces", g.way(1, 0, 0), NONE);
        dueSteps("against the pieces", g);
        g.way(0, 1, 0);
        g.turn(0, 1, true);
        due("the one turn is barred", g.way(0, 1, 0), NONE);
        dueSteps("the one turn is barred", g);
        g.turn(0, 1, false);
        due("the turn is free again", g.way(0, 1, 0), 10);
        dueSteps("the turn is free again", g, 0, 1);
    }

    private static void wayUnknown() {
        StreetGraph g = line(1);
        g.stop(0, 0, 0);
        due("from the stop behind the last", g.way(1, 0, 0), UNKNOWN);
        due("to the stop behind the last", g.way(0, 1, 0), UNKNOWN);
        for (int no : NEVER_NUMBERS) {
            due("from " + no, g.way(no, 0, 0), UNKNOWN);
            due("to " + no, g.way(0, no, 0), UNKNOWN);
        }
    }

    private static void wayOutside() {
        StreetGraph g = line(1);
        g.stop(0, 0, 0);
        g.stop(0, 1, 10);
        due("0", g.way(0, 1, 0), 25);
        due("10^12", g.way(0, 1, LATEST), LATEST + 25);
        due("-1", g.way(0, 1, -1), OUTSIDE);
        due("10^12 and 1", g.way(0, 1, LATEST + 1), OUTSIDE);
        due("the least long", g.way(0, 1, Long.MIN_VALUE), OUTSIDE);
        due("the largest long", g.way(0, 1, Long.MAX_VALUE), OUTSIDE);
        due("where no way is", g.way(1, 0, -1), OUTSIDE);
    }

    private static void stepNone() {
        StreetGraph g = line(3);
        g.stop(0, 0, 0);
        g.stop(2, 0, 0);
        due("before any way", g.step(0), NONE);
        g.way(0, 1, 0);
        due("the first", g.step(0), 0);
        due("the last", g.step(2), 2);
        for (int no : new int[] {-1, 3, 119, 120, 121, Integer.MIN_VALUE, Integer.MAX_VALUE}) {
            due("step " + no, g.step(no), NONE);
        }
        g.way(0, 0, 0);
        due("the one of a shorter way", g.step(0), 0);
        due("that of the longer way before", g.step(1), NONE);
    }

    /** Two rings over all crossings, joined at one of them alone, so that a way back leads over all 120 pieces. */
    private static StreetGraph twoRings() {
        StreetGraph g = fullOfPieces();
        for (int i = 0; i < 60; i++) {
            int next = (i + 1) % 60;
            g.turn(i, i == 59 ? 0 : 60 + next, true);
            g.turn(60 + i, i == 59 ? 60 : next, true);
        }
        return g;
    }

    private static void stepsOfTheLongestWay() {
        StreetGraph g = twoRings();
        g.stop(0, 0, 10);
        g.stop(0, 0, 0);
        due("over all pieces, and the first again", g.way(0, 1, 0), 1190);
        for (int i = 0; i <= 120; i++) {
            due("step " + i, g.step(i), i % 120);
        }
        due("behind the last", g.step(121), NONE);
    }

    private static void latestArrival() {
        StreetGraph g = twoRings();
        for (int i = 0; i < 120; i++) {
            g.change(i, 1);
            // Each one's gate is open a second earlier than that of the one before, so each waits for the next day.
            long open = 20000 - (i == 0 ? 120 : i);
            g.gate(i, open, open + 1);
        }
        g.stop(0, 1, 10);
        g.stop(0, 1, 9);
        long secondEntered = LATEST + 19999 - 6400;
        due("a day for each piece", g.way(0, 1, LATEST), secondEntered + 119 * (DAY - 1) + 90 + 15);
    }

    private static void gateNone() {
        StreetGraph g = gateAlone(100, 200);
        due("there is one", g.service(1, 2), true);
        due("both 0", g.gate(1, 0, 0), 0);
        due("there is none", g.service(1, 2), false);
        due("nobody waits", g.way(0, 1, 5), 5);
        due("both 0 where none is", g.gate(1, 0, 0), 0);
        due("the first second", g.gate(1, 0, 1), 1);
        due("there is one again", g.service(1, 2), true);
        due("one waits", g.way(0, 1, 5), DAY);
    }

    private static void gateOfTheWholeDay() {
        StreetGraph g = gateAlone(0, DAY);
        due("it is one", g.service(1, 2), true);
        due("nobody waits at midnight", g.way(0, 1, 0), 0);
        due("nobody waits before midnight", g.way(0, 1, 86399), 86399);
        due("nobody waits at the next one", g.way(0, 1, DAY), DAY);
    }

    private static void gateUnknown() {
        StreetGraph g = line(1);
        due("the piece behind the last", g.gate(1, 0, 0), UNKNOWN);
        for (int no : NEVER_NUMBERS) {
            due("piece " + no, g.gate(no, 0, 1), UNKNOWN);
        }
        due("piece 120", fullOfPieces().gate(120, 0, 1), UNKNOWN);
    }

    private static void gateOutside() {
        StreetGraph g = line(1);
        due("0 to 1", g.gate(0, 0, 1), 1);
        due("0 to 86400", g.gate(0, 0, 86400), 1);
        due("86399 to 86400", g.gate(0, 86399, 86400), 1);
        long[][] not = {{1, 1}, {2, 1}, {1, 0}, {-1, 0}, {-1, 1}, {-1, -1}, {0, -1}, {-2, -1}, {0, 86401},
            {86399, 86401}, {86400, 86400}, {86400, 86401}, {86399, 86399}, {Long.MIN_VALUE, Long.MAX_VALUE},
            {0, Long.MAX_VALUE}, {Long.MIN_VALUE, 0}, {Long.MAX_VALUE, Long.MIN_VALUE}, {1L << 32, 1L << 32},
            {0, 1L << 32}, {1L << 32, 0}};
        for (long[] hours : not) {
            due(hours[0] + " to " + hours[1], g.gate(0, hours[0], hours[1]), OUTSIDE);
        }
        due("a gate is there still", g.service(0, 2), true);
    }

    private static void toldOfAWayStays() {
        StreetGraph g = threeBetween(20, 20, 20);
        due("a way", g.way(0, 1, 0), 20);
        due("that before", g.change(0, 1), 10);
        dueSteps("the told way", g, 3, 0, 4);
        due("a way behind the change", g.way(0, 1, 0), 20);
        dueSteps("a way behind the change", g, 3, 1, 4);
        due("that before, again", g.change(0, 1000), 1);
        dueSteps("the second told way", g, 3, 1, 4);
        due("a way behind the second change", g.way(0, 1, 0), 1);
        dueSteps("a way behind the second change", g, 3, 0, 4);
    }

    private static void changeUnknown() {
        StreetGraph g = line(1);
        due("the piece behind the last", g.change(1, 1), UNKNOWN);
        for (int no : NEVER_NUMBERS) {
            due("piece " + no, g.change(no, 1), UNKNOWN);
        }
        due("piece 120", fullOfPieces().change(120, 1), UNKNOWN);
    }

    private static void changeOutside() {
        StreetGraph g = line(1);
        due("1", g.change(0, 1), 10);
        due("1000", g.change(0, 1000), 1);
        for (long no : new long[] {0, -1, 1001, Long.MIN_VALUE, Long.MAX_VALUE, 1L << 32, (1L << 32) + 1}) {
            due("speed " + no, g.change(0, no), OUTSIDE);
        }
        due("the speed is that before", g.change(0, 5), 1000);
    }

    private static void tableFromTime0() {
        StreetGraph g = gateAlone(100, 200);
        g.way(0, 1, 150);
        due("waits from 0 on", g.table(0, 1), 100);
        due("to itself", g.table(0, 0), 0);
        g.gate(1, 0, 1);
        due("in the first second", g.table(0, 1), 0);
        g.gate(1, 86399, 86400);
        due("until the last second", g.table(0, 1), 86399);
        due("side 1", g.stop(0, 1, 10), 2);
        g.gate(1, 0, 15);
        due("15 before leaving, too late", g.table(2, 1), DAY);
        g.gate(1, 0, 16);
        due("15 before leaving, in time", g.table(2, 1), 15);
    }

    private static void tableNone() {
        StreetGraph g = gateAlone(0, 0);
        due("against the pieces", g.table(1, 0), NONE);
        g.turn(0, 1, true);
        due("barred", g.table(0, 1), NONE);
    }

    private static void tableUnknown() {
        StreetGraph g = line(1);
        due("no stop at all", g.table(0, 0), UNKNOWN);
        g.stop(0, 0, 0);
        due("from the stop behind the last", g.table(1, 0), UNKNOWN);
        due("to the stop behind the last", g.table(0, 1), UNKNOWN);
        for (int no : NEVER_NUMBERS) {
            due("from " + no, g.table(no, 0), UNKNOWN);
            due("to " + no, g.table(0, no), UNKNOWN);
        }
    }

    private static void tableLeavesTheWay() {
        StreetGraph g = line(3);
        g.stop(0, 0, 0);
        g.stop(2, 0, 0);
        g.stop(1, 0, 0);
        due("another way, before any", g.table(0, 1), 20);
        dueSteps("before any", g);
        g.way(0, 1, 0);
        due("a shorter one", g.table(0, 2), 10);
        dueSteps("behind a shorter one", g, 0, 1, 2);
        due("none", g.table(1, 0), NONE);
        dueSteps("behind none", g, 0, 1, 2);
        due("on one piece", g.table(2, 2), 0);
        dueSteps("behind one on one piece", g, 0, 1, 2);
        g.way(1, 0, 0);
        due("a way behind none", g.table(0, 1), 20);
        dueSteps("none stays none", g);
    }

    private static void piece2Throws() {
        StreetGraph g = line(1);
        due("the last", piece2OrThrow(g, 0), 1);
        due("behind the last", piece2OrThrow(g, 1), THROWS);
        for (int no : NEVER_NUMBERS) {
            due("piece " + no, piece2OrThrow(g, no), THROWS);
        }
        StreetGraph full = fullOfPieces();
        due("piece 119", piece2OrThrow(full, 119), 59 * 60);
        due("piece 120", piece2OrThrow(full, 120), THROWS);
    }

    private static void piece2OfTheOuterCrossings() {
        StreetGraph g = new StreetGraph();
        g.piece(0, 0, 1, 1);
        g.piece(0, 59, 1, 1);
        g.piece(59, 0, 1, 1);
        g.piece(59, 59, 1, 1);
        due("0 to 0", g.piece2(0), 0);
        due("0 to 59", g.piece2(1), 59);
        due("59 to 0", g.piece2(2), 3540);
        due("59 to 59", g.piece2(3), 3599);
    }

    private static void serviceOfSides() {
        StreetGraph g = line(3);
        due("no stop, side 0", g.service(0, 0), false);
        due("no stop, side 1", g.service(0, 1), false);
        g.stop(0, 1, 0);
        due("one at side 1, side 0", g.service(0, 0), false);
        due("one at side 1, side 1", g.service(0, 1), true);
        g.stop(0, 0, 10);
        due("both, side 0", g.service(0, 0), true);
        due("both, side 1", g.service(0, 1), true);
        due("a refused stop", g.stop(1, 0, 11), OUTSIDE);
        due("only a refused one", g.service(1, 0), false);
        StreetGraph full = line(2);
        for (int i = 0; i < 99; i++) {
            full.stop(0, 0, 0);
        }
        full.stop(1, 1, 0);
        due("the hundredth stop alone", full.service(1, 1), true);
        due("not at its other side", full.service(1, 0), false);
    }

    private static void serviceOfGoingOn() {
        StreetGraph g = line(2);
        due("one behind it", g.service(0, 3), true);
        due("none behind it", g.service(1, 3), false);
        g.piece(2, 2, 10, 10);
        due("a loop behind it", g.service(1, 3), true);
        due("the loop itself", g.service(2, 3), true);
        g.turn(2, 2, true);
        due("the loop, its turn barred", g.service(2, 3), false);
        g.turn(1, 2, true);
        due("the one behind it barred", g.service(1, 3), false);
        g.piece(2, 1, 10, 10);
        due("back", g.service(1, 3), true);
        g.turn(1, 3, true);
        due("back, barred", g.service(1, 3), false);
        g.turn(1, 2, false);
        due("one of two barred", g.service(1, 3), true);
        g.gate(2, 5, 6);
        due("a gate bars no turn", g.service(1, 3), true);
        StreetGraph first = new StreetGraph();
        first.piece(1, 2, 10, 10);
        first.piece(0, 1, 10, 10);
        due("the first piece alone", first.service(1, 3), true);
        StreetGraph full = fullOfPieces();
        full.turn(118, 59, true);
        due("the last piece alone", full.service(118, 3), true);
        full.turn(118, 119, true);
        due("not even the last one", full.service(118, 3), false);
    }

    private static void serviceFalse() {
        StreetGraph g = line(1);
        g.piece(1, 0, 10, 10);
        g.stop(0, 0, 0);
        g.stop(0, 1, 0);
        g.gate(0, 0, DAY);
        for (int kind = 0; kind < 4; kind++) {
            due("kind " + kind, g.service(0, kind), true);
            due("the piece behind the last, kind " + kind, g.service(2, kind), false);
            for (int no : NEVER_NUMBERS) {
                due("piece " + no + ", kind " + kind, g.service(no, kind), false);
            }
        }
        for (int kind : new int[] {-1, 4, 5, Integer.MIN_VALUE, Integer.MAX_VALUE}) {
            due("kind " + kind, g.service(0, kind), false);
        }
        due("piece 120", fullOfPieces().service(120, 3), false);
    }

    private static void sentencesOfTheTerms() {
        holds("An object is used for at most 512 calls", BoundaryTest::the512thCall);
        holds("CROSSINGS are 0 .. 59", BoundaryTest::crossings);
        holds("PIECES 0, 1, .. (120 at most)", BoundaryTest::piecesAtMost);
        holds("from a crossing to another one (or the same)", BoundaryTest::theSameCrossing);
        holds("a LENGTH in metres, 1 .. 10000", BoundaryTest::lengths);
        holds("a SPEED in tenths of metres for each second, 1 .. 1000", BoundaryTest::speeds);
        holds("10 times the metres divided by the speed, rounded up", BoundaryTest::roundedUp);
        holds("each piece that begins where it ends (a loop itself)", BoundaryTest::aLoopsTurnToItself);
        holds("unless that TURN is barred (back, too)", BoundaryTest::backToo);
        holds("from OPEN on and below CLOSE", BoundaryTest::fromOpenOnAndBelowClose);
        holds("the first stop's own piece is not entered, unless one comes to it again",
                BoundaryTest::ownPieceIsNotEntered);
        holds("who comes at another time waits for the next such one", BoundaryTest::waitsForTheNext);
        holds("STOPS 0, 1, .. (100 at most)", BoundaryTest::stopsAtMost);
        holds("who stops at side 1 crosses the street", BoundaryTest::crossesTheStreet);
        holds("if the second one does not lie before the first one, straight on", BoundaryTest::notBefore);
        holds("the two on the same piece at any sides", BoundaryTest::anySides);
        holds("the rest of the first one's piece, .. up to where it lies", BoundaryTest::noRestAndNoMetres);
        holds("each entered when the one before is done (and its gate lets)",
                BoundaryTest::enteredWhenTheOneBeforeIsDone);
        holds("that on one piece if there is one", BoundaryTest::onOnePieceIfThereIsOne);
        holds("the one of the least number", BoundaryTest::theLeastNumber);
        holds("the pieces that, done at their least time, let it be entered then", BoundaryTest::atTheirLeastTime);
        holds("by its rest alone .. and has that number, the way begins there", BoundaryTest::theWayBeginsThere);
    }

    private static void sentencesOfPromises1To4() {
        holds("1: No pieces, no stops", BoundaryTest::noPiecesNoStops);
        holds("2: UNKNOWN (a crossing)", BoundaryTest::pieceUnknown);
        holds("2: OUTSIDE (length; speed below 0 or above 1000)", BoundaryTest::pieceOutside);
        holds("2: ROOM", BoundaryTest::pieceRoom);
        holds("2: ArithmeticException when the speed is 0 and it is not refused", BoundaryTest::pieceOfSpeed0);
        holds("3: how many barred ones there are", BoundaryTest::turnCounts);
        holds("3: how many barred ones there are (all)", BoundaryTest::allTurnsBarred);
        holds("3: how many barred ones there are (of 120 pieces)", BoundaryTest::eachTurnIsItsOwn);
        holds("3: UNKNOWN", BoundaryTest::turnUnknown);
        holds("3: STATE (the second one does not begin where the first one ends)", BoundaryTest::turnState);
        holds("4: UNKNOWN", BoundaryTest::stopUnknown);
        holds("4: OUTSIDE (a side is not 0 or 1; at is below 0 or above the piece's length)",
                BoundaryTest::stopOutside);
        holds("4: ROOM", BoundaryTest::stopRoom);
    }

    private static void sentencesOfPromises5To11() {
        holds("5: NONE when there is none. (With NONE it tells none.)", BoundaryTest::wayNone);
        holds("5: UNKNOWN", BoundaryTest::wayUnknown);
        holds("5: OUTSIDE (t is not 0 .. 10^12)", BoundaryTest::wayOutside);
        holds("6: NONE when there is none such", BoundaryTest::stepNone);
        holds("6: Piece i (0 the first) of the way", BoundaryTest::stepsOfTheLongestWay);
        holds("5: OUTSIDE (t is not 0 .. 10^12), and the latest arrival of all", BoundaryTest::latestArrival);
        holds("7: none, if both are 0", BoundaryTest::gateNone);
        holds("7: open from the one on and below the other", BoundaryTest::gateOfTheWholeDay);
        holds("7: UNKNOWN", BoundaryTest::gateUnknown);
        holds("7: OUTSIDE (not 0 <= open < close <= 86400, but for both 0)", BoundaryTest::gateOutside);
        holds("8: (What was told of a way stays.)", BoundaryTest::toldOfAWayStays);
        holds("8: UNKNOWN", BoundaryTest::changeUnknown);
        holds("8: OUTSIDE (speed is not 1 .. 1000)", BoundaryTest::changeOutside);
        holds("9: the least way from stop i to stop j takes from time 0", BoundaryTest::tableFromTime0);
        holds("9: NONE when there is none", BoundaryTest::tableNone);
        holds("9: UNKNOWN", BoundaryTest::tableUnknown);
        holds("9: (The way that step tells stays.)", BoundaryTest::tableLeavesTheWay);
        holds("10: ArrayIndexOutOfBoundsException when there is no such piece", BoundaryTest::piece2Throws);
        holds("10: 60 times the crossing where piece i begins, and where it ends",
                BoundaryTest::piece2OfTheOuterCrossings);
        holds("11: kind = 0, 1: whether a stop lies at that side", BoundaryTest::serviceOfSides);
        holds("11: 3: whether one may go on from it", BoundaryTest::serviceOfGoingOn);
        holds("11: False for another kind, or when there is no such piece", BoundaryTest::serviceFalse);
    }

    public static void main(String[] args) {
        sentencesOfTheTerms();
        sentencesOfPromises1To4();
        sentencesOfPromises5To11();
        System.out.println(wrong == 0 ? "all " + sentences + " sentences hold" : wrong + " answers are not as due");
        if (wrong != 0) {
            System.exit(1);
        }
    }
}
