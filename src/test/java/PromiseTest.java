/** Each promise by hand: ordinary inputs, the edges that the document names, wrong inputs. */
public final class PromiseTest {
    private static final int NONE = StreetGraph.NONE;
    private static final int UNKNOWN = StreetGraph.UNKNOWN;
    private static final int OUTSIDE = StreetGraph.OUTSIDE;
    private static final int STATE = StreetGraph.STATE;
    private static final int ROOM = StreetGraph.ROOM;
    private static final long LATEST = 1000000000000L;
    private static final int[] NO_NUMBERS = {-1, -2, 120, 200, Integer.MIN_VALUE, Integer.MAX_VALUE};

    private static int wrong = 0;
    private static String promise = "";

    private static void due(String what, long got, long want) {
        if (got != want) {
            wrong++;
            System.out.println(promise + ": " + what + " answered " + got + ", due is " + want);
        }
    }

    private static void due(String what, boolean got, boolean want) {
        due(what, got ? 1 : 0, want ? 1 : 0);
    }

    private static void dueSteps(String what, StreetGraph g, int... pieces) {
        for (int i = 0; i < pieces.length; i++) {
            due(what + ", step " + i, g.step(i), pieces[i]);
        }
        due(what + ", the step behind the last", g.step(pieces.length), NONE);
        due(what + ", step -1", g.step(-1), NONE);
    }

    private static boolean pieceThrows(StreetGraph g, int a, int b, long length, long speed) {
        try {
            g.piece(a, b, length, speed);
            return false;
        } catch (ArithmeticException e) {
            return true;
        }
    }

    private static boolean piece2Throws(StreetGraph g, int i) {
        try {
            g.piece2(i);
            return false;
        } catch (ArrayIndexOutOfBoundsException e) {
            return true;
        }
    }

    private static int count(StreetGraph g) {
        int n = 0;
        while (!piece2Throws(g, n)) {
            n++;
        }
        return n;
    }

    /** Pieces 0: 0 -> 1, 1: 1 -> 2, .. each of 10 metres, 1 metre a second. */
    private static StreetGraph line(int pieces) {
        StreetGraph g = new StreetGraph();
        for (int i = 0; i < pieces; i++) {
            g.piece(i, i + 1, 10, 10);
        }
        return g;
    }

    private static void newObject() {
        StreetGraph g = new StreetGraph();
        due("pieces", count(g), 0);
        due("stop", g.stop(0, 0, 0), UNKNOWN);
        due("way", g.way(0, 0, 0), UNKNOWN);
        due("table", g.table(0, 0), UNKNOWN);
        due("turn", g.turn(0, 0, true), UNKNOWN);
        due("gate", g.gate(0, 0, 0), UNKNOWN);
        due("change", g.change(0, 1), UNKNOWN);
        due("service", g.service(0, 3), false);
        dueSteps("no way", g);
        line(3).stop(0, 0, 0);
        due("another object's pieces", count(g), 0);
    }

    private static void piece() {
        StreetGraph g = new StreetGraph();
        due("first", g.piece(0, 59, 1, 1), 0);
        due("second", g.piece(59, 0, 10000, 1000), 1);
        due("a loop", g.piece(7, 7, 5, 5), 2);
        for (int no : new int[] {-1, 60, 61, Integer.MIN_VALUE, Integer.MAX_VALUE}) {
            due("no crossing at the beginning", g.piece(no, 0, 1, 1), UNKNOWN);
            due("no crossing at the end", g.piece(0, no, 1, 1), UNKNOWN);
            due("UNKNOWN before OUTSIDE", g.piece(0, no, 0, -1), UNKNOWN);
            due("UNKNOWN before the throw", g.piece(no, 0, 1, 0), UNKNOWN);
        }
        for (long no : new long[] {0, -1, 10001, 1L << 32, (1L << 32) + 1, Long.MIN_VALUE, Long.MAX_VALUE}) {
            due("length " + no, g.piece(0, 0, no, 1), OUTSIDE);
            due("length " + no + " with speed 0", g.piece(0, 0, no, 0), OUTSIDE);
        }
        for (long no : new long[] {-1, 1001, 1L << 32, (1L << 32) + 1, Long.MIN_VALUE, Long.MAX_VALUE}) {
            due("speed " + no, g.piece(0, 0, 1, no), OUTSIDE);
        }
        due("speed 0", pieceThrows(g, 0, 0, 1, 0), true);
        due("none more", count(g), 3);
        for (int i = 3; i < 120; i++) {
            due("piece", g.piece(i % 60, 0, 1, 1), i);
        }
        due("the 121st", g.piece(0, 0, 1, 1), ROOM);
        due("the 121st with speed 0", pieceThrows(g, 0, 0, 1, 0), false);
        due("the 121st with speed 0", g.piece(0, 0, 1, 0), ROOM);
        due("OUTSIDE before ROOM", g.piece(0, 0, 0, 1), OUTSIDE);
        due("UNKNOWN before ROOM", g.piece(60, 0, 1, 1), UNKNOWN);
        due("120 pieces", count(g), 120);
    }

    private static void turn() {
        StreetGraph g = line(2);
        g.piece(1, 0, 10, 10);
        g.piece(2, 2, 10, 10);
        due("a bar", g.turn(0, 1, true), 1);
        due("the same again", g.turn(0, 1, true), 1);
        due("the way back", g.turn(0, 2, true), 2);
        due("a loop to itself", g.turn(3, 3, true), 3);
        due("not barred, taken away", g.turn(1, 3, false), 3);
        due("away", g.turn(0, 1, false), 2);
        due("away again", g.turn(0, 1, false), 2);
        due("not joined", g.turn(0, 3, true), STATE);
        due("the other way round", g.turn(1, 0, true), STATE);
        due("a piece to itself", g.turn(0, 0, true), STATE);
        due("not joined, away", g.turn(0, 3, false), STATE);
        for (int no : NO_NUMBERS) {
            due("no first", g.turn(no, 0, true), UNKNOWN);
            due("no second", g.turn(0, no, false), UNKNOWN);
        }
        due("no piece 4 yet", g.turn(3, 4, true), UNKNOWN);
        due("the count stays", g.turn(1, 3, false), 2);
    }

    private static void turnsOfMany() {
        StreetGraph g = new StreetGraph();
        for (int i = 0; i < 120; i++) {
            g.piece(0, 0, 10, 10);
        }
        g.stop(0, 0, 10);
        int[] far = {0, 1, 31, 32, 63, 64, 65, 95, 96, 119};
        for (int i = 0; i < far.length; i++) {
            due("a bar", g.turn(0, far[i], true), i + 1);
            due("a stop", g.stop(far[i], 0, 5), i + 1);
        }
        due("none but these", g.turn(0, 2, false), far.length);
        due("none but those from 0", g.turn(64, 0, false), far.length);
        for (int i = 0; i < far.length; i++) {
            due("by another piece to " + far[i], g.way(0, i + 1, 0), 15);
            dueSteps("by another piece to " + far[i], g, 0, 2, far[i]);
        }
        for (int i = 0; i < far.length; i++) {
            due("a bar less", g.turn(0, far[i], false), far.length - 1 - i);
            due("at once to " + far[i], g.way(0, i + 1, 0), 5);
            dueSteps("at once to " + far[i], g, 0, far[i]);
        }
    }

    private static void stop() {
        StreetGraph g = line(2);
        due("at the beginning", g.stop(0, 0, 0), 0);
        due("at the end", g.stop(1, 1, 10), 1);
        due("the same place", g.stop(1, 1, 10), 2);
        for (int no : NO_NUMBERS) {
            due("no piece", g.stop(no, 0, 0), UNKNOWN);
            due("UNKNOWN before OUTSIDE", g.stop(no, 2, -1), UNKNOWN);
        }
        due("the piece behind the last", g.stop(2, 0, 0), UNKNOWN);
        for (int no : new int[] {-1, 2, Integer.MIN_VALUE, Integer.MAX_VALUE}) {
            due("side " + no, g.stop(0, no, 0), OUTSIDE);
        }
        for (long no : new long[] {-1, 11, 1L << 32, Long.MIN_VALUE, Long.MAX_VALUE}) {
            due("at " + no, g.stop(0, 0, no), OUTSIDE);
        }
        for (int i = 3; i < 100; i++) {
            due("stop", g.stop(i % 2, i % 2, i % 11), i);
        }
        due("the 101st", g.stop(0, 0, 0), ROOM);
        due("OUTSIDE before ROOM", g.stop(0, 2, 0), OUTSIDE);
        due("UNKNOWN before ROOM", g.stop(2, 0, 0), UNKNOWN);
        due("stop 99 is one", g.way(99, 99, 5), 35);
        due("stop 100 is none", g.way(100, 99, 5), UNKNOWN);
    }

    private static void wayStraightOn() {
        StreetGraph g = new StreetGraph();
        g.piece(0, 0, 100, 30);
        g.stop(0, 0, 10);
        g.stop(0, 1, 20);
        g.stop(0, 0, 10);
        g.stop(0, 1, 100);
        g.stop(0, 0, 0);
        due("rounded up, one side", g.way(0, 1, 1000), 1000 + 4 + 15);
        dueSteps("straight on", g, 0);
        due("to itself", g.way(0, 0, 9), 9);
        due("to itself at side 1", g.way(1, 1, 9), 9 + 30);
        due("to another one at the same place", g.way(0, 2, 0), 0);
        due("both sides", g.way(1, 3, 0), 15 + 27 + 15);
        g.gate(0, 50000, 50001);
        due("the own piece is not entered", g.way(4, 3, 0), 34 + 15);
        due("from the latest time on", g.way(0, 0, LATEST), LATEST);
        dueSteps("to itself", g, 0);
        due("round, and the gate of the own piece", g.way(1, 0, 0), 50000 + 4);
        dueSteps("round", g, 0, 0);
        g.turn(0, 0, true);
        due("round, barred", g.way(1, 0, 0), NONE);
        dueSteps("none", g);
    }

    private static void wayOverPieces() {
        StreetGraph g = line(3);
        g.stop(0, 1, 3);
        g.stop(2, 1, 4);
        g.stop(2, 0, 0);
        g.stop(0, 0, 10);
        due("sides count at both ends", g.way(0, 1, 100), 100 + 15 + 7 + 10 + 4 + 15);
        dueSteps("three pieces", g, 0, 1, 2);
        due("to a piece's beginning", g.way(3, 2, 0), 10);
        dueSteps("to a piece's beginning", g, 0, 1, 2);
        due("from the latest time on", g.way(3, 2, LATEST), LATEST + 10);
        due("against the direction", g.way(1, 0, 0), NONE);
        dueSteps("none", g);
        g.piece(3, 0, 1, 1000);
        due("round by a short piece", g.way(1, 0, 0), 15 + 6 + 1 + 3 + 15);
        dueSteps("round by a short piece", g, 2, 3, 0);
    }

    private static void wayRoundsEachPart() {
        StreetGraph g = new StreetGraph();
        g.piece(0, 1, 10, 30);
        g.piece(1, 2, 10, 30);
        g.piece(2, 3, 10, 30);
        g.stop(0, 0, 9);
        g.stop(2, 0, 1);
        due("each part is rounded up", g.way(0, 1, 0), 1 + 4 + 1);
        g.change(0, 10);
        g.change(1, 1000);
        g.change(2, 1);
        due("10 metres of 100 a second, 1 of a tenth", g.way(0, 1, 0), 1 + 1 + 10);
    }

    private static void wayRefuses() {
        StreetGraph g = line(2);
        g.stop(0, 0, 0);
        g.stop(1, 0, 0);
        due("a way", g.way(0, 1, 0), 10);
        for (int no : NO_NUMBERS) {
            due("no first", g.way(no, 0, 0), UNKNOWN);
            due("no second", g.way(0, no, 0), UNKNOWN);
            due("UNKNOWN before OUTSIDE", g.way(0, no, -1), UNKNOWN);
        }
        for (long no : new long[] {-1, LATEST + 1, Long.MIN_VALUE, Long.MAX_VALUE}) {
            due("t " + no, g.way(0, 1, no), OUTSIDE);
        }
        dueSteps("a refusal changes nothing", g, 0, 1);
    }

    private static void wayOfTheLeastNumber() {
        StreetGraph g = new StreetGraph();
        g.piece(3, 4, 10, 10);
        g.piece(1, 3, 20, 10);
        g.piece(2, 3, 10, 10);
        g.piece(1, 2, 10, 10);
        g.piece(1, 2, 10, 10);
        g.piece(0, 1, 10, 10);
        g.stop(5, 0, 0);
        g.stop(0, 0, 10);
        due("two ways at once", g.way(0, 1, 0), 40);
        dueSteps("the least before the last", g, 5, 1, 0);
        g.turn(1, 0, true);
        due("barred", g.way(0, 1, 0), 40);
        dueSteps("the least of two like pieces", g, 5, 3, 2, 0);
        g.turn(1, 0, false);
        g.change(1, 9);
        due("slower", g.way(0, 1, 0), 40);
        dueSteps("no slower one", g, 5, 3, 2, 0);
        g.gate(0, 100, 200);
        due("the gate lets both", g.way(0, 1, 0), 110);
        dueSteps("a later one that waits less", g, 5, 1, 0);
        g.gate(3, 50, 60);
        due("the gate of one", g.way(0, 1, 0), 110);
        g.turn(1, 0, true);
        due("a piece is entered at its least time", g.way(0, 1, 0), 110);
        dueSteps("so the one without a gate", g, 5, 4, 2, 0);
    }

    private static void wayBeginsAtTheFirstPiece() {
        StreetGraph g = new StreetGraph();
        g.piece(1, 1, 10, 10);
        g.piece(0, 1, 10, 10);
        g.piece(1, 2, 10, 10);
        g.stop(1, 0, 0);
        g.stop(2, 0, 5);
        g.stop(0, 0, 5);
        g.gate(2, 1000, 2000);
        due("a loop's time is lost in the wait", g.way(0, 1, 0), 1005);
        dueSteps("the loop has the less number", g, 1, 0, 2);
        due("from the loop itself", g.way(2, 1, 0), 1005);
        dueSteps("its rest alone", g, 0, 2);
        g.gate(2, 0, 0);
        due("without the wait", g.way(0, 1, 0), 15);
        dueSteps("without the wait", g, 1, 2);
    }

    private static void wayOverAllPieces() {
        StreetGraph g = new StreetGraph();
        for (int i = 0; i < 60; i++) {
            g.piece(i, (i + 1) % 60, 10000, 1);
        }
        for (int i = 0; i < 60; i++) {
            g.piece(i, (i + 1) % 60, 10000, 1);
        }
        // Two rings, joined at one crossing alone, so that a way back leads over all 120 pieces.
        for (int i = 0; i < 60; i++) {
            int next = (i + 1) % 60;
            g.turn(i, i == 59 ? 0 : 60 + next, true);
            g.turn(60 + i, i == 59 ? 60 : next, true);
        }
        g.stop(0, 0, 1);
        g.stop(0, 0, 0);
        g.gate(0, 5, 6);
        long through = 100000L - 10 + 119 * 100000L;
        long due = through + Math.floorMod(5 - through, 86400L);
        due("round", g.way(0, 1, 0), due);
        for (int i = 0; i < 120; i++) {
            due("round, step " + i, g.step(i), i);
        }
        due("the first once more", g.step(120), 0);
        due("behind the last", g.step(121), NONE);
    }

    private static void step() {
        StreetGraph g = line(3);
        g.stop(0, 0, 0);
        g.stop(2, 0, 0);
        dueSteps("before a way", g);
        g.way(0, 1, 0);
        dueSteps("a way", g, 0, 1, 2);
        for (int no : new int[] {3, 121, 122, Integer.MIN_VALUE, Integer.MAX_VALUE}) {
            due("step " + no, g.step(no), NONE);
        }
        g.turn(0, 1, true);
        g.change(1, 1);
        g.gate(1, 1, 2);
        g.piece(0, 2, 1, 1);
        due("table", g.table(0, 1), NONE);
        dueSteps("what was told stays", g, 0, 1, 2);
        g.way(1, 1, 0);
        dueSteps("the latest", g, 2);
        g.way(1, 0, 0);
        dueSteps("none", g);
    }

    private static void gate() {
        StreetGraph g = line(2);
        g.stop(0, 0, 10);
        g.stop(1, 0, 1);
        due("a gate", g.gate(1, 100, 200), 1);
        due("too early", g.way(0, 1, 99), 101);
        due("as it opens", g.way(0, 1, 100), 101);
        due("the last second", g.way(0, 1, 199), 200);
        due("as it closes", g.way(0, 1, 200), 86400 + 101);
        due("the next day", g.way(0, 1, 86400 + 150), 86400 + 151);
        due("the end of a day", g.way(0, 1, 86399), 86400 + 101);
        due("the latest time", g.way(0, 1, LATEST), LATEST - LATEST % 86400 + 86400 + 101);
        due("another one", g.gate(1, 0, 1), 1);
        due("at midnight alone", g.way(0, 1, 1), 86401);
        due("at midnight", g.way(0, 1, 86400), 86401);
        due("the last second of a day", g.gate(1, 86399, 86400), 1);
        due("the last second of a day", g.way(0, 1, 0), 86400);
        due("the whole day", g.gate(1, 0, 86400), 1);
        due("the whole day", g.way(0, 1, 86399), 86400);
        due("the whole day is a gate", g.service(1, 2), true);
        due("none", g.gate(1, 0, 0), 0);
        due("none again", g.gate(1, 0, 0), 0);
        due("none", g.way(0, 1, 5), 6);
        g.gate(1, 100, 200);
        long[][] not = {{5, 5}, {6, 5}, {-1, 5}, {0, 86401}, {86400, 86400}, {5, 0}, {0, -1}, {-1, 0}, {-1, -1},
            {Long.MIN_VALUE, 1}, {0, Long.MAX_VALUE}, {1L << 32, 1L << 32}, {0, 1L << 32}};
        for (long[] hours : not) {
            due(hours[0] + " to " + hours[1], g.gate(1, hours[0], hours[1]), OUTSIDE);
        }
        for (int no : NO_NUMBERS) {
            due("no piece", g.gate(no, 0, 0), UNKNOWN);
            due("UNKNOWN before OUTSIDE", g.gate(no, 5, 5), UNKNOWN);
        }
        due("the gate stays", g.way(0, 1, 0), 101);
    }

    private static void change() {
        StreetGraph g = line(2);
        g.stop(0, 0, 0);
        g.stop(1, 0, 0);
        due("that before", g.change(0, 1000), 10);
        due("faster", g.way(0, 1, 0), 1);
        due("that before", g.change(0, 1), 1000);
        due("slower", g.way(0, 1, 0), 100);
        due("the same", g.change(0, 1), 1);
        for (long no : new long[] {0, -1, 1001, 1L << 32, (1L << 32) + 1, Long.MIN_VALUE, Long.MAX_VALUE}) {
            due("speed " + no, g.change(0, no), OUTSIDE);
        }
        for (int no : NO_NUMBERS) {
            due("no piece", g.change(no, 5), UNKNOWN);
            due("UNKNOWN before OUTSIDE", g.change(no, 0), UNKNOWN);
        }
        due("the speed stays", g.change(0, 7), 1);
        due("the other piece's", g.change(1, 7), 10);
    }

    private static void table() {
        StreetGraph g = line(2);
        g.stop(0, 1, 3);
        g.stop(1, 1, 2);
        g.stop(0, 0, 10);
        due("a way", g.way(2, 1, 500), 517);
        due("with both sides", g.table(0, 1), 15 + 7 + 2 + 15);
        due("on one piece", g.table(0, 2), 15 + 7);
        due("to itself at side 1", g.table(0, 0), 30);
        due("to itself", g.table(2, 2), 0);
        due("none", g.table(1, 0), NONE);
        g.gate(1, 3600, 7200);
        due("from time 0", g.table(0, 1), 3600 + 2 + 15);
        for (int no : NO_NUMBERS) {
            due("no first", g.table(no, 0), UNKNOWN);
            due("no second", g.table(0, no), UNKNOWN);
        }
        due("the stop behind the last", g.table(0, 3), UNKNOWN);
        dueSteps("the way stays", g, 0, 1);
    }

    private static void piece2() {
        StreetGraph g = new StreetGraph();
        g.piece(0, 0, 1, 1);
        g.piece(59, 58, 1, 1);
        g.piece(1, 2, 1, 1);
        due("0 to 0", g.piece2(0), 0);
        due("59 to 58", g.piece2(1), 59 * 60 + 58);
        due("1 to 2", g.piece2(2), 62);
        due("behind the last", piece2Throws(g, 3), true);
        for (int no : NO_NUMBERS) {
            due("no piece " + no, piece2Throws(g, no), true);
        }
        due("as before", g.piece2(2), 62);
    }

    private static void service() {
        StreetGraph g = line(2);
        g.piece(5, 5, 1, 1);
        g.stop(0, 0, 0);
        g.stop(1, 1, 0);
        boolean[][] due = {{true, false, false, true}, {false, true, false, false}, {false, false, false, true}};
        for (int piece = 0; piece < 3; piece++) {
            for (int kind = 0; kind < 4; kind++) {
                due("service " + piece + ", " + kind, g.service(piece, kind), due[piece][kind]);
            }
        }
        g.gate(1, 5, 6);
        due("a gate", g.service(1, 2), true);
        due("another one's gate", g.service(0, 2), false);
        g.gate(1, 0, 0);
        due("no gate", g.service(1, 2), false);
        g.turn(0, 1, true);
        due("barred", g.service(0, 3), false);
        g.piece(1, 0, 1, 1);
        due("back", g.service(0, 3), true);
        g.turn(2, 2, true);
        due("a loop barred", g.service(2, 3), false);
        g.turn(2, 2, false);
        due("a loop", g.service(2, 3), true);
        for (int no : NO_NUMBERS) {
            due("another kind", g.service(0, no < 0 ? no : 4), false);
            for (int kind = 0; kind < 4; kind++) {
                due("no piece", g.service(no, kind), false);
            }
        }
        due("another kind", g.service(0, Integer.MAX_VALUE), false);
        due("the piece behind the last", g.service(4, 3), false);
    }

    private static void begin(int number) {
        promise = "promise " + number;
    }

    public static void main(String[] args) {
        begin(1);
        newObject();
        begin(2);
        piece();
        begin(3);
        turn();
        turnsOfMany();
        begin(4);
        stop();
        begin(5);
        wayStraightOn();
        wayOverPieces();
        wayRoundsEachPart();
        wayRefuses();
        wayOfTheLeastNumber();
        wayBeginsAtTheFirstPiece();
        wayOverAllPieces();
        begin(6);
        step();
        begin(7);
        gate();
        begin(8);
        change();
        begin(9);
        table();
        begin(10);
        piece2();
        begin(11);
        service();
        System.out.println(wrong == 0 ? "all promises hold" : wrong + " answers are not as due");
        if (wrong != 0) {
            System.exit(1);
        }
    }
}
