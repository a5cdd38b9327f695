/** Streets as directed pieces between crossings, with the least time from stop to stop. */
public final class StreetGraph {
    public static final int NONE = -1;
    public static final int UNKNOWN = -11, OUTSIDE = -12, STATE = -13, ROOM = -14;

    private static final int CROSSINGS = 60;
    private static final int MOST_PIECES = 120;
    private static final int MOST_STOPS = 100;
    private static final long MOST_METRES = 10000L;
    private static final long MOST_SPEED = 1000L;
    private static final long LATEST_START = 1000000000000L;
    private static final long DAY = 86400L;
    private static final long STREET_CROSSING = 15L;

    // A told way has each piece once at most, but for the first stop's own one, which may come again last.
    private static final int MOST_STEPS = MOST_PIECES + 1;

    // Later than every time of a way, and far enough below the largest long to be added to.
    private static final long NEVER = 4000000000000000000L;

    // A bit for each turn, because an element for each one would be most of the object's room.
    private static final int WORDS_PER_PIECE = (MOST_PIECES + 63) / 64;

    private final int[] begins;
    private final int[] ends;
    private final long[] lengths;
    private final long[] speeds;
    private final long[] opens;
    private final long[] closes;
    private int pieceCount;

    private final long[] barredBits;
    private int barredCount;

    private final int[] stopPieces;
    private final int[] stopSides;
    private final long[] stopMetres;
    private int stopCount;

    // The rows of the latest search, kept so that no call makes new ones.
    private final long[] entered;
    private final long[] done;
    private final boolean[] settled;

    // From the last piece back, because a way is found in that order.
    private final int[] stepsBack;
    private int stepCount;

    public StreetGraph() {
        begins = new int[MOST_PIECES];
        ends = new int[MOST_PIECES];
        lengths = new long[MOST_PIECES];
        speeds = new long[MOST_PIECES];
        opens = new long[MOST_PIECES];
        closes = new long[MOST_PIECES];
        barredBits = new long[MOST_PIECES * WORDS_PER_PIECE];
        stopPieces = new int[MOST_STOPS];
        stopSides = new int[MOST_STOPS];
        stopMetres = new long[MOST_STOPS];
        entered = new long[MOST_PIECES];
        done = new long[MOST_PIECES];
        settled = new boolean[MOST_PIECES];
        stepsBack = new int[MOST_STEPS];
    }

    public int piece(int a, int b, long length, long speed) throws ArithmeticException {
        if (!isCrossing(a) || !isCrossing(b)) {
            return UNKNOWN;
        }
        if (length < 1 || length > MOST_METRES || speed < 0 || speed > MOST_SPEED) {
            return OUTSIDE;
        }
        if (pieceCount >= MOST_PIECES) {
            return ROOM;
        }
        if (speed == 0) {
            throw new ArithmeticException("a piece's speed is 0");
        }
        begins[pieceCount] = a;
        ends[pieceCount] = b;
        lengths[pieceCount] = length;
        speeds[pieceCount] = speed;
        pieceCount++;
        return pieceCount - 1;
    }

    public int turn(int from, int to, boolean barred) {
        if (!isPiece(from) || !isPiece(to)) {
            return UNKNOWN;
        }
        if (ends[from] != begins[to]) {
            return STATE;
        }
        if (isBarred(from, to) != barred) {
            barredBits[wordOfTurn(from, to)] ^= bitOfTurn(to);
            barredCount += barred ? 1 : -1;
        }
        return barredCount;
    }

    public int stop(int piece, int side, long at) {
        if (!isPiece(piece)) {
            return UNKNOWN;
        }
        if (side < 0 || side > 1 || at < 0 || at > lengths[piece]) {
            return OUTSIDE;
        }
        if (stopCount >= MOST_STOPS) {
            return ROOM;
        }
        stopPieces[stopCount] = piece;
        stopSides[stopCount] = side;
        stopMetres[stopCount] = at;
        stopCount++;
        return stopCount - 1;
    }

    public long way(int from, int to, long t) {
        if (!isStop(from) || !isStop(to)) {
            return UNKNOWN;
        }
        if (t < 0 || t > LATEST_START) {
            return OUTSIDE;
        }
        long arrival = leastArrival(from, to, t);
        stepCount = 0;
        if (arrival != NONE) {
            keepSteps(from, to);
        }
        return arrival;
    }

    public int step(int i) {
        if (i < 0 || i >= stepCount) {
            return NONE;
        }
        return stepsBack[stepCount - 1 - i];
    }

    public int gate(int piece, long open, long close) {
        if (!isPiece(piece)) {
            return UNKNOWN;
        }
        boolean none = open == 0 && close == 0;
        if (!none && (open < 0 || open >= close || close > DAY)) {
            return OUTSIDE;
        }
        opens[piece] = open;
        closes[piece] = close;
        return none ? 0 : 1;
    }

    public int change(int piece, long speed) {
        if (!isPiece(piece)) {
            return UNKNOWN;
        }
        if (speed < 1 || speed > MOST_SPEED) {
            return OUTSIDE;
        }
        int before = (int) speeds[piece];
        speeds[piece] = speed;
        return before;
    }

    public long table(int i, int j) {
        if (!isStop(i) || !isStop(j)) {
            return UNKNOWN;
        }
        return leastArrival(i, j, 0L);
    }

    public int piece2(int i) throws ArrayIndexOutOfBoundsException {
        if (!isPiece(i)) {
            throw new ArrayIndexOutOfBoundsException("there is no such piece");
        }
        return CROSSINGS * begins[i] + ends[i];
    }

    public boolean service(int piece, int kind) {
        if (!isPiece(piece)) {
            return false;
        }
        switch (kind) {
            case 0:
            case 1:
                return hasStopAtSide(piece, kind);
            case 2:
                return hasGate(piece);
            case 3:
                return mayGoOnFrom(piece);
            default:
                return false;
        }
    }

    private static boolean isCrossing(int number) {
        return number >= 0 && number < CROSSINGS;
    }

    private boolean isPiece(int number) {
        return number >= 0 && number < pieceCount;
    }

    private boolean isStop(int number) {
        return number >= 0 && number < stopCount;
    }

    private static int wordOfTurn(int from, int to) {
        return from * WORDS_PER_PIECE + to / 64;
    }

    private static long bitOfTurn(int to) {
        return 1L << (to % 64);
    }

    private boolean isBarred(int from, int to) {
        return (barredBits[wordOfTurn(from, to)] & bitOfTurn(to)) != 0;
    }

    private boolean mayGoOn(int from, int to) {
        return ends[from] == begins[to] && !isBarred(from, to);
    }

    private boolean mayGoOnFrom(int piece) {
        for (int next = 0; next < pieceCount; next++) {
            if (mayGoOn(piece, next)) {
                return true;
            }
        }
        return false;
    }

    private boolean hasStopAtSide(int piece, int side) {
        for (int stop = 0; stop < stopCount; stop++) {
            if (stopPieces[stop] == piece && stopSides[stop] == side) {
                return true;
            }
        }
        return false;
    }

    private boolean hasGate(int piece) {
        // A gate's close is above its open, so 0 is left for none.
        return closes[piece] != 0;
    }

    private long secondsFor(int piece, long metres) {
        // No piece's speed is below 1; the bound shows here, too, that nothing is divided by 0.
        long speed = Math.max(1L, speeds[piece]);
        return (10 * metres + speed - 1) / speed;
    }

    private long secondsAcross(int stop) {
        return stopSides[stop] == 1 ? STREET_CROSSING : 0L;
    }

    private long entryAtOrAfter(int piece, long time) {
        if (!hasGate(piece)) {
            return time;
        }
        long ofDay = time % DAY;
        if (ofDay < opens[piece]) {
            return time - ofDay + opens[piece];
        }
        if (ofDay < closes[piece]) {
            return time;
        }
        return time - ofDay + DAY + opens[piece];
    }

    private boolean isStraightOn(int from, int to) {
        return stopPieces[from] == stopPieces[to] && stopMetres[from] <= stopMetres[to];
    }

    private long leastArrival(int from, int to, long t) {
        long leaving = t + secondsAcross(from);
        int first = stopPieces[from];
        int last = stopPieces[to];
        if (isStraightOn(from, to)) {
            // Coming round to the same piece again takes its rest and more, so it is never as early.
            long between = stopMetres[to] - stopMetres[from];
            return leaving + secondsFor(first, between) + secondsAcross(to);
        }
        long rest = lengths[first] - stopMetres[from];
        findLeastTimes(first, leaving + secondsFor(first, rest), last);
        if (entered[last] == NEVER) {
            return NONE;
        }
        return entered[last] + secondsFor(last, stopMetres[to]) + secondsAcross(to);
    }

    private void findLeastTimes(int first, long firstDone, int last) {
        forgetLeastTimes();
        done[first] = firstDone;
        for (int round = 0; round < pieceCount; round++) {
            int piece = earliestUnsettled();
            // A piece done later than the last one is entered neither betters that entry nor stands on its way.
            if (piece == NONE || done[piece] > entered[last]) {
                return;
            }
            settled[piece] = true;
            goOnFrom(piece);
        }
    }

    private void forgetLeastTimes() {
        for (int piece = 0; piece < pieceCount; piece++) {
            entered[piece] = NEVER;
            done[piece] = NEVER;
            settled[piece] = false;
        }
    }

    private int earliestUnsettled() {
        int earliest = NONE;
        long time = NEVER;
        for (int piece = 0; piece < pieceCount; piece++) {
            if (!settled[piece] && done[piece] < time) {
                earliest = piece;
                time = done[piece];
            }
        }
        return earliest;
    }

    private void goOnFrom(int piece) {
        for (int next = 0; next < pieceCount; next++) {
            if (!mayGoOn(piece, next)) {
                continue;
            }
            long entry = entryAtOrAfter(next, done[piece]);
            if (entry < entered[next]) {
                entered[next] = entry;
                // The first piece is entered again only after its rest is done, so its done time stays.
                done[next] = Math.min(done[next], entry + secondsFor(next, lengths[next]));
            }
        }
    }

    private void keepSteps(int from, int to) {
        int first = stopPieces[from];
        int last = stopPieces[to];
        stepsBack[0] = last;
        stepCount = 1;
        if (isStraightOn(from, to)) {
            return;
        }
        int piece = pieceBefore(last);
        while (piece != NONE && stepCount < MOST_STEPS) {
            stepsBack[stepCount] = piece;
            stepCount++;
            // The first piece's least time is that of its rest, so the way begins wherever it comes before another.
            piece = piece == first ? NONE : pieceBefore(piece);
        }
    }

    private int pieceBefore(int next) {
        for (int piece = 0; piece < pieceCount; piece++) {
            if (mayGoOn(piece, next) && entryAtOrAfter(next, done[piece]) == entered[next]) {
                return piece;
            }
        }
        return NONE;
    }
}
