import java.util.Arrays;
import java.util.NoSuchElementException;

/** Chess taken up by the pieces: a board in a garden whose pieces have ideas, hear one another and agree. */
public final class TakenUpByThePieces {
    private static final int WIDTH = 6;
    private static final int SQUARES = 36;
    private static final int TAKEN = 36;
    private static final int MOST_PIECES = 10;
    private static final int LAST_DAY = 999;
    private static final int MOST_THOUGHT = 9999;

    private static final int PAWN = 0;
    private static final int KNIGHT = 1;
    private static final int ROOK = 2;
    private static final int BISHOP = 3;
    private static final int QUEEN = 4;
    private static final int KING = 5;
    private static final int DEAF = 6;
    private static final int NUN = 7;
    private static final int KINDS = 8;
    private static final int FIGURES = 10;

    private static final int NO_SUCH = -1;
    private static final int NO_ROOM = -2;
    private static final int NOT_SO = -3;
    private static final int NONE = -4;
    private static final int NOTHING_HELD = -11;
    private static final int OTHER_KIND = -12;
    private static final int NO_PLACE = -13;
    private static final int NO_SIZE = -14;
    private static final int NO_FAILURE = -15;
    private static final long LONG_REFUSAL = 1000000000L;

    private static final int WRONG_BYTE = -1000;
    private static final int WRONG_STATEMENT = -2000;

    private static final int SHELVES = 8;
    private static final int MOST_ELEMENTS = 100;
    private static final int HOLDS_NOTHING = 0;
    private static final int HOLDS_KIND = 1;
    private static final int HOLDS_ROW = 2;
    private static final int BYTES = 0;
    private static final int SHORTS = 1;
    private static final int INTS = 2;
    private static final int LEAST_BYTE = -128;
    private static final int LEAST_SHORT = -32768;
    private static final int LEAST_INT = 0x80000000;
    private static final int ALL_BUT_SIGN = 0x7fffffff;

    private static final int MOST_DAYS = 60;
    private static final int STILL_LATEST = 40;
    private static final int STILL_DAYS = 20;
    private static final int STAND_DAYS = 20;
    private static final int OFF_DAYS = 30;
    private static final int TWO_DAYS = 30;
    /** A pair of choices is a number of two bits, the one's above the other's. */
    private static final int PAIRS = 4;
    private static final int RAIN_DAYS = 7;
    private static final int MOST_GAMES = 20;
    private static final int GAME_DAYS = 16;

    private final Board now = new Board();
    private final Board image = new Board();
    private boolean imageTaken = false;
    private final Shelf[] shelves = new Shelf[SHELVES];
    /** A board in mind for each day of rain, and one to begin with. */
    private final Board[] minds = new Board[RAIN_DAYS + 1];
    private final Board mind = new Board();
    private final Board asItIs = new Board();
    private final int[] gainsOfOne = new int[PAIRS];
    private final int[] gainsOfOther = new int[PAIRS];
    private int seed = 0;

    public TakenUpByThePieces() {
        for (int d = 0; d < SHELVES; d++) {
            shelves[d] = new Shelf();
        }
        for (int level = 0; level <= RAIN_DAYS; level++) {
            minds[level] = new Board();
        }
    }

    // ---- the game as told

    public int game(int d) {
        Shelf text = shelfAt(d);
        int refusal = refusalUnless(text, HOLDS_ROW);
        if (text == null || refusal != 0) {
            return refusal;
        }
        if (text.sort != BYTES) {
            return OTHER_KIND;
        }
        int wrong = text.wrongByte();
        if (wrong != NONE) {
            return WRONG_BYTE - wrong;
        }
        int statements = 0;
        mind.becomes(now);
        for (int place = 0; place < text.size; place += 2 + Math.max(0, text.digitsBehind(place))) {
            if (!isDone(text, place)) {
                return WRONG_STATEMENT - place;
            }
            statements++;
        }
        now.becomes(mind);
        return statements;
    }

    public int piece(int p, int what) {
        if (!now.has(p)) {
            return NO_SUCH;
        }
        switch (what) {
            case 0: return now.kind[p];
            case 1: return now.figure[p];
            case 2: return now.side[p];
            case 3: return now.squareOrNone(p);
            case 4: return Kinds.earsWith(now.kind[p], now.figure[p]);
            case 5: return Kinds.worthWith(now.kind[p], now.figure[p]);
            case 6: return now.ideaOf(p, now.day + 1);
            default: return NO_SUCH;
        }
    }

    public int on(int square) {
        return isSquare(square) ? now.standing[square] : NO_SUCH;
    }

    public int comes(int d, int side, int square) {
        Shelf shelf = shelfAt(d);
        if (shelf == null || !isSide(side) || !isSquare(square)) {
            return NO_SUCH;
        }
        int refusal = refusalUnless(shelf, HOLDS_KIND);
        if (refusal != 0) {
            return refusal;
        }
        if (now.count >= MOST_PIECES) {
            return NO_ROOM;
        }
        return now.addPiece(shelf.kind, shelf.figure, side, square) ? now.count - 1 : NOT_SO;
    }

    public int stands(int p, int square) {
        if (!now.has(p) || !isSquare(square)) {
            return NO_SUCH;
        }
        int before = now.squareOrNone(p);
        return now.movePiece(p, square) ? before : NOT_SO;
    }

    public int takes(int p) {
        if (!now.has(p)) {
            return NO_SUCH;
        }
        int before = now.squareOrNone(p);
        return now.takeOff(p) ? before : NOT_SO;
    }

    public int turn(int side) {
        int before = now.turn;
        return now.giveTurn(side) ? before : NO_SUCH;
    }

    public int days(int n) {
        if (n < 1 || n > MOST_DAYS) {
            return NO_SUCH;
        }
        return now.passWithinLast(n) ? now.howManyThere() : NOT_SO;
    }

    // ---- days on

    public int squareThen(int p, int n) {
        if (!now.has(p) || n < 0 || n > MOST_DAYS) {
            return NO_SUCH;
        }
        lookAhead(n);
        return mind.squareOrNone(p);
    }

    public int then(int n, int what) {
        if (n < 0 || n > MOST_DAYS || what < 0 || what > 3) {
            return NO_SUCH;
        }
        lookAhead(n);
        switch (what) {
            case 0: return mind.bitsThere();
            case 1: return mind.thought;
            case 2: return mind.worthOf(0);
            default: return mind.worthOf(1);
        }
    }

    public int falls(int p) {
        if (p == -1) {
            return firstToFall();
        }
        if (!now.has(p)) {
            return NO_SUCH;
        }
        mind.becomes(now);
        for (int n = 0; n < MOST_DAYS; n++) {
            if (!mind.isThere(p)) {
                return n;
            }
            mind.passDay(0, false);
        }
        return mind.isThere(p) ? NONE : MOST_DAYS;
    }

    public int still() {
        mind.becomes(now);
        int stillFrom = 0;
        for (int n = 1; n <= STILL_LATEST + STILL_DAYS; n++) {
            if (mind.passDay(0, false)) {
                stillFrom = n;
            }
            if (stillFrom > STILL_LATEST) {
                return NONE;
            }
            if (n - stillFrom == STILL_DAYS) {
                return stillFrom;
            }
        }
        return NONE;
    }

    public int next(int what) {
        if (what < 0 || what > 2) {
            return NO_SUCH;
        }
        int tomorrow = now.day + 1;
        int goer = now.goerOn(tomorrow, 0, false);
        if (what == 0) {
            return goer;
        }
        if (what == 1) {
            return now.ideaOf(goer, tomorrow);
        }
        return Integer.bitCount(now.hearersOf(goer, false));
    }

    // ---- who hears, where to stand

    public int heard(int p) {
        if (!now.has(p)) {
            return NO_SUCH;
        }
        return now.isThere(p) ? now.hearersOf(p, false) : NOT_SO;
    }

    public int danger(int side) {
        if (!isSide(side)) {
            return NO_SUCH;
        }
        int bits = 0;
        for (int p = 0; p < now.count; p++) {
            int square = now.isThereOf(p, 1 - side) ? now.ideaOf(p, now.day + 1) : NONE;
            if (now.isHeldBy(square, side)) {
                bits |= 1 << now.standing[square];
            }
        }
        return bits;
    }

    public int stand(int p, int n, int what) {
        if (!now.has(p) || n < 0 || n > STAND_DAYS || what < 0 || what > 1) {
            return NO_SUCH;
        }
        if (!now.isThere(p)) {
            return NOT_SO;
        }
        int best = NONE;
        int most = 0;
        for (int square = 0; square < SQUARES; square++) {
            if (placeInMind(p, square)) {
                mind.passDays(n);
                int difference = mind.worthOf(now.side[p]) - mind.worthOf(1 - now.side[p]);
                if (best == NONE || difference > most) {
                    best = square;
                    most = difference;
                }
            }
        }
        return what == 0 ? best : most + 100;
    }

    public int off(int n) {
        if (n < 0 || n > OFF_DAYS) {
            return NO_SUCH;
        }
        asItIs.becomes(now);
        asItIs.passDays(n);
        int best = NONE;
        int most = 0;
        for (int p = 0; p < now.count; p++) {
            mind.becomes(now);
            if (mind.takeOff(p)) {
                mind.passDays(n);
                int worth = mind.worthWithout(p);
                if (worth > asItIs.worthWithout(p) && worth > most) {
                    best = p;
                    most = worth;
                }
            }
        }
        return best;
    }

    public int ears(int p, int other) {
        if (!now.has(p) || !now.has(other) || p == other) {
            return NO_SUCH;
        }
        if (!now.isThere(p) || !now.isThere(other) || now.side[p] != now.side[other]) {
            return NONE;
        }
        for (int figure = 0; figure < FIGURES; figure++) {
            if (far(now.square[p], now.square[other]) <= Kinds.earsWith(now.kind[p], figure)) {
                return figure;
            }
        }
        return NONE;
    }

    public int side(int side, int what) {
        if (!isSide(side)) {
            return NO_SUCH;
        }
        switch (what) {
            case 0: return now.groupsOf(side);
            case 1: return now.worthOf(side);
            case 2: return now.farthestOf(side);
            case 3: return now.howManyOf(side);
            default: return NO_SUCH;
        }
    }

    public int free(int what) {
        switch (what) {
            case 0: return SQUARES - now.howManyThere();
            case 1: return now.pairsSideBySide();
            case 2: return now.quietOn(now.day + 1);
            default: return NO_SUCH;
        }
    }

    // ---- what kind one is, where it came from

    public int whatIs(int d, int p, int what) {
        Shelf row = shelfAt(d);
        if (row == null || !now.has(p) || what < 0 || what > 1) {
            return NO_SUCH;
        }
        int refusal = refusalUnless(row, HOLDS_ROW);
        if (refusal != 0) {
            return refusal;
        }
        int bits = 0;
        for (int guess = 0; guess < (what == 0 ? KINDS : FIGURES); guess++) {
            mind.becomes(now);
            if (what == 0) {
                mind.turnInto(p, guess, now.figure[p]);
            } else {
                mind.turnInto(p, now.kind[p], guess);
            }
            if (wentAsTold(p, row, 0)) {
                bits |= 1 << guess;
            }
        }
        return bits;
    }

    public int whereFrom(int d, int p, int what) {
        Shelf row = shelfAt(d);
        if (row == null || !now.has(p) || what < 0 || what > 2) {
            return NO_SUCH;
        }
        if (!now.isThere(p)) {
            return NOT_SO;
        }
        int refusal = refusalUnless(row, HOLDS_ROW);
        if (refusal != 0) {
            return refusal;
        }
        int number = 0;
        int least = NONE;
        int greatest = NONE;
        for (int square = 0; square < SQUARES; square++) {
            if (placeInMind(p, square) && wentAsTold(p, row, 1)) {
                number++;
                least = least == NONE ? square : least;
                greatest = square;
            }
        }
        if (what == 0) {
            return number;
        }
        return what == 1 ? least : greatest;
    }

    public int two(int a, int b, int n) {
        if (!now.has(a) || !now.has(b) || a == b || n < 1 || n > TWO_DAYS) {
            return NO_SUCH;
        }
        if (!now.isThere(a) || !now.isThere(b)) {
            return NOT_SO;
        }
        for (int pair = 0; pair < PAIRS; pair++) {
            int mute = ((pair & 2) == 0 ? 1 << a : 0) | ((pair & 1) == 0 ? 1 << b : 0);
            mind.becomes(now);
            for (int i = 0; i < n; i++) {
                mind.passDay(mute, false);
            }
            gainsOfOne[pair] = mind.gainOf(a);
            gainsOfOther[pair] = mind.gainOf(b);
        }
        return firstPairAtRest();
    }

    public long rain(int p, int n, int t, int part) {
        if (!now.has(p) || n < 0 || n > RAIN_DAYS || t < 2 || t > 20 || part < 0 || part > 1) {
            return LONG_REFUSAL - NO_SUCH;
        }
        Board first = minds[0];
        if (first == null) {
            return LONG_REFUSAL - NO_SUCH;
        }
        first.becomes(now);
        long all = 1;
        for (int i = 0; i < n; i++) {
            all *= t;
        }
        return partInLeastTerms(waysToBeThere(minds, 0, n, p, t), all, part);
    }

    public long share(int side, int part) {
        if (!isSide(side) || part < 0 || part > 1) {
            return LONG_REFUSAL - NO_SUCH;
        }
        int own = now.worthOf(side);
        return partInLeastTerms(own, own + now.worthOf(1 - side), part);
    }

    // ---- told boards, games by seeds

    public int forged(int d) {
        Shelf row = shelfAt(d);
        int refusal = refusalUnless(row, HOLDS_ROW);
        if (row == null || refusal != 0) {
            return refusal;
        }
        for (int p = 0; p < row.size; p++) {
            if (!now.has(p) || row.elementAt(p) != now.square[p]) {
                return p;
            }
        }
        return NONE;
    }

    public int judge(int d) {
        Shelf row = shelfAt(d);
        int refusal = refusalUnless(row, HOLDS_ROW);
        if (row == null || refusal != 0) {
            return refusal;
        }
        mind.becomes(now);
        for (int i = 0; i < row.size; i++) {
            if (i > 0) {
                mind.passDay(0, false);
            }
            if (!row.isSkipped(i) && row.elementAt(i) != mind.howManyThere()) {
                return i;
            }
        }
        return NONE;
    }

    public int games(int n, int z, int what) {
        if (n < 1 || n > MOST_GAMES || what < 0 || what > 1) {
            return NO_SUCH;
        }
        seed = z;
        int together = 0;
        for (int i = 0; i < n; i++) {
            setUpByDraws();
            mind.passDays(GAME_DAYS);
            together += what == 0 ? mind.howManyThere() : mind.thought - now.thought;
        }
        return together;
    }

    // ---- the image, what is told

    public int image() {
        image.becomes(now);
        imageTaken = true;
        return now.day;
    }

    public int restore() {
        if (!imageTaken) {
            return NOT_SO;
        }
        now.becomes(image);
        return now.day;
    }

    public int count(int what) {
        switch (what) {
            case 0: return now.count;
            case 1: return now.day;
            case 2: return now.turn;
            case 3: return now.thought;
            case 4: return now.bitsThere();
            default: return NO_SUCH;
        }
    }

    // ---- shelves

    public int keep(int d, int what, int k, int figure) {
        Shelf shelf = shelfAt(d);
        if (shelf == null || what < 0 || what > 1) {
            return NO_SUCH;
        }
        if (what == 0) {
            shelf.holds = HOLDS_NOTHING;
            return 0;
        }
        if (!isKind(k) || !isFigure(figure)) {
            return NO_SUCH;
        }
        shelf.holds = HOLDS_KIND;
        shelf.kind = k;
        shelf.figure = figure;
        return 0;
    }

    public int row(int d, int sort, int n) {
        Shelf shelf = shelfAt(d);
        if (shelf == null || sort < BYTES || sort > INTS || n > MOST_ELEMENTS) {
            return NO_SUCH;
        }
        if (n < 0) {
            return NO_SIZE;
        }
        shelf.becomesRow(sort, n);
        return 0;
    }

    public int put(int d, int i, int v) {
        Shelf shelf = shelfAt(d);
        int refusal = refusalUnless(shelf, HOLDS_ROW);
        if (shelf == null || refusal != 0) {
            return refusal;
        }
        return shelf.putIn(i, v) ? 0 : NO_PLACE;
    }

    public long element(int d, int i) throws IllegalArgumentException, IllegalStateException {
        Shelf shelf = shelfAt(d);
        if (shelf == null) {
            throw new IllegalArgumentException("no such shelf");
        }
        if (shelf.holds != HOLDS_ROW) {
            throw new IllegalStateException("no row");
        }
        if (!shelf.hasPlace(i)) {
            throw new IllegalStateException("no such place");
        }
        return shelf.elementAt(i);
    }

    public int copy(int d, int i, int e, int j, int n) {
        Shelf from = shelfAt(d);
        Shelf to = shelfAt(e);
        if (from == null || to == null) {
            return NO_SUCH;
        }
        if (from.holds == HOLDS_NOTHING || to.holds == HOLDS_NOTHING) {
            return NOTHING_HELD;
        }
        if (from.holds != HOLDS_ROW || to.holds != HOLDS_ROW || from.sort != to.sort) {
            return OTHER_KIND;
        }
        if (!from.hasPlaces(i, n) || !to.hasPlaces(j, n)) {
            return NO_PLACE;
        }
        System.arraycopy(from.elements, i, to.elements, j, n);
        return n;
    }

    public int cost(int d) {
        Shelf shelf = shelfAt(d);
        int refusal = refusalUnless(shelf, HOLDS_KIND);
        return shelf == null || refusal != 0 ? refusal : Kinds.costWith(shelf.kind, shelf.figure);
    }

    public int toss(int d) {
        Shelf shelf = shelfAt(d);
        int refusal = refusalUnless(shelf, HOLDS_KIND);
        if (shelf == null || refusal != 0) {
            return refusal;
        }
        try {
            Kinds.failWith(shelf.kind, shelf.figure);
        } catch (IllegalStateException plain) {
            return shelf.figure;
        } catch (UnsupportedOperationException ofRook) {
            return 100 + shelf.figure;
        } catch (NoSuchElementException ofDeaf) {
            return 200 + Kinds.costWith(shelf.kind, shelf.figure);
        }
        return NO_FAILURE;
    }

    // ---- what the calls share

    private static boolean isSquare(int square) {
        return square >= 0 && square < SQUARES;
    }

    private static boolean isSide(int side) {
        return side == 0 || side == 1;
    }

    private static boolean isKind(int kind) {
        return kind >= 0 && kind < KINDS;
    }

    private static boolean isFigure(int figure) {
        return figure >= 0 && figure < FIGURES;
    }

    private static int far(int square, int other) {
        int rows = square / WIDTH - other / WIDTH;
        int columns = square % WIDTH - other % WIDTH;
        rows = rows < 0 ? -rows : rows;
        columns = columns < 0 ? -columns : columns;
        return rows > columns ? rows : columns;
    }

    /** The SHELF with that number; null: there is none. */
    private Shelf shelfAt(int d) {
        return d >= 0 && d < shelves.length ? shelves[d] : null;
    }

    /** Why a SHELF is of no use to one who wants such a thing on it; 0: it is. */
    private static int refusalUnless(Shelf shelf, int holds) {
        if (shelf == null) {
            return NO_SUCH;
        }
        if (shelf.holds == HOLDS_NOTHING) {
            return NOTHING_HELD;
        }
        return shelf.holds == holds ? 0 : OTHER_KIND;
    }

    /** Does the STATEMENT at a place, in mind: whether it is as it must be. */
    private boolean isDone(Shelf text, int place) {
        int first = text.digitAt(place + 1);
        int second = text.digitAt(place + 2);
        int third = text.digitAt(place + 3);
        switch (text.elementAt(place)) {
            case 'p': return mind.addPiece(first, second, third, text.twoDigitsAt(place + 4));
            case 'm': return mind.movePiece(first, text.twoDigitsAt(place + 2));
            case 'x': return mind.takeOff(first);
            case 't': return mind.giveTurn(first);
            case 'k': return mind.turnInto(first, second, third);
            case 'd': return mind.passWithinLast(text.twoDigitsAt(place + 1));
            default: return false;
        }
    }

    private void lookAhead(int n) {
        mind.becomes(now);
        mind.passDays(n);
    }

    /** In mind one stands on a SQUARE: whether that is free, or its own. */
    private boolean placeInMind(int p, int square) {
        mind.becomes(now);
        return mind.movePiece(p, square);
    }

    private int firstToFall() {
        mind.becomes(now);
        for (int n = 0; n < MOST_DAYS; n++) {
            mind.passDay(0, false);
            for (int p = 0; p < now.count; p++) {
                if (now.isThere(p) && !mind.isThere(p)) {
                    return p;
                }
            }
        }
        return NONE;
    }

    /** Whether in mind, its first element behind so many DAYS, the ROW tells the SQUARES of one. */
    private boolean wentAsTold(int p, Shelf row, int firstBehind) {
        for (int i = 0; i < row.size; i++) {
            if (i > 0 || firstBehind > 0) {
                mind.passDay(0, false);
            }
            if (!row.isSkipped(i) && row.elementAt(i) != mind.squareOf(p)) {
                return false;
            }
        }
        return true;
    }

    private int firstPairAtRest() {
        for (int pair = 0; pair < PAIRS; pair++) {
            boolean oneRests = gainsOfOne[pair] >= gainsOfOne[pair ^ 2];
            boolean otherRests = gainsOfOther[pair] >= gainsOfOther[pair ^ 1];
            if (oneRests && otherRests) {
                return 10 * (pair >> 1) + (pair & 1);
            }
        }
        return NONE;
    }

    /** How many of t by t by .. courses of rain from a level's board on leave one THERE behind day n. */
    private static long waysToBeThere(Board[] levels, int level, int n, int p, int t) {
        if (level < 0 || level >= levels.length) {
            return 0;
        }
        Board here = levels[level];
        if (here == null || !here.isThere(p)) {
            return 0;
        }
        int above = level + 1;
        if (level >= n || above >= levels.length) {
            return 1L;
        }
        Board later = levels[above];
        if (later == null) {
            return 0;
        }
        later.becomes(here);
        later.passDay(0, true);
        long wet = waysToBeThere(levels, above, n, p, t);
        later.becomes(here);
        later.passDay(0, false);
        return wet + (t - 1) * waysToBeThere(levels, above, n, p, t);
    }

    private static long partInLeastTerms(long above, long below, int part) {
        if (above == 0) {
            return part == 0 ? 0 : 1;
        }
        long divisor = above;
        long rest = below;
        for (int i = 0; i < 1000 && rest != 0; i++) {
            long next = divisor % rest;
            divisor = rest;
            rest = next;
        }
        long told = part == 0 ? above : below;
        return divisor == 0 ? told : told / divisor;
    }

    private int draw(int below) {
        seed = seed * 1103515245 + 12345;
        return below <= 0 ? 0 : (seed & ALL_BUT_SIGN) / 65536 % below;
    }

    /** A new game in mind: all PIECES THERE, each on the first SQUARE from its DRAW on where none stands. */
    private void setUpByDraws() {
        mind.becomes(now);
        mind.takeAllOff();
        for (int p = 0; p < mind.count; p++) {
            int square = draw(SQUARES);
            for (int i = 0; i < SQUARES && !mind.movePiece(p, square); i++) {
                square = (square + 1) % SQUARES;
            }
        }
    }

    /** What a KIND with a FIGURE is like; of another KIND it has what the one it is under has. */
    private static final class Kinds {
        private static final int PAWN_EARS = 2;
        private static final int PAWN_WORTH = 1;
        private static final int ROOK_WORTH = 5;
        private static final int PAWN_COST = 1;
        private static final int BISHOP_COST = 2;

        static int earsWith(int kind, int figure) {
            switch (kind) {
                case KNIGHT: return 3;
                case ROOK: return figure;
                case BISHOP:
                case NUN: return PAWN_EARS + 2;
                case QUEEN: return figure + 3;
                case KING: return 5;
                case DEAF: return 0;
                case PAWN:
                default: return PAWN_EARS;
            }
        }

        static int worthWith(int kind, int figure) {
            switch (kind) {
                case KNIGHT: return 3;
                case ROOK: return ROOK_WORTH;
                case BISHOP:
                case NUN: return PAWN_WORTH + figure / 3;
                case QUEEN: return 2 * ROOK_WORTH - 1;
                case KING: return 9;
                case DEAF: return ROOK_WORTH - 1;
                case PAWN:
                default: return PAWN_WORTH;
            }
        }

        static int costWith(int kind, int figure) {
            switch (kind) {
                case KNIGHT: return 3;
                case ROOK:
                case DEAF: return PAWN_COST + figure;
                case BISHOP: return BISHOP_COST;
                case QUEEN: return 2 * (PAWN_COST + figure);
                case KING: return 0;
                case NUN: return BISHOP_COST / 2;
                case PAWN:
                default: return PAWN_COST;
            }
        }

        /** Throws the FAILURE, another for ROOKS and for DEAF ones; comes back if there is none. */
        static void failWith(int kind, int figure) {
            if (figure == 0 || kind == KING || kind == BISHOP || kind == NUN) {
                return;
            }
            if (kind == DEAF) {
                throw new NoSuchElementException("nothing was heard");
            }
            if (kind == ROOK || kind == QUEEN) {
                throw new UnsupportedOperationException("nothing stands ahead");
            }
            throw new IllegalStateException("nobody agrees");
        }
    }

    /** A board with all that is on it, as it is, or in mind. */
    private static final class Board {
        final int[] kind = new int[MOST_PIECES];
        final int[] figure = new int[MOST_PIECES];
        final int[] side = new int[MOST_PIECES];
        final int[] square = new int[MOST_PIECES];
        /** Of each SQUARE who stands on it, or NONE. */
        final int[] standing = new int[SQUARES];
        int count = 0;
        int turn = 0;
        int thought = 0;
        int day = 0;

        Board() {
            Arrays.fill(standing, NONE);
        }

        void becomes(Board other) {
            System.arraycopy(other.kind, 0, kind, 0, MOST_PIECES);
            System.arraycopy(other.figure, 0, figure, 0, MOST_PIECES);
            System.arraycopy(other.side, 0, side, 0, MOST_PIECES);
            System.arraycopy(other.square, 0, square, 0, MOST_PIECES);
            System.arraycopy(other.standing, 0, standing, 0, SQUARES);
            count = other.count;
            turn = other.turn;
            thought = other.thought;
            day = other.day;
        }

        boolean has(int p) {
            return p >= 0 && p < count && p < MOST_PIECES;
        }

        boolean isThere(int p) {
            return has(p) && square[p] != TAKEN;
        }

        boolean isThereOf(int p, int ofSide) {
            return p >= 0 && p < count && p < MOST_PIECES && side[p] == ofSide && square[p] != TAKEN;
        }

        int squareOf(int p) {
            return has(p) ? square[p] : TAKEN;
        }

        int squareOrNone(int p) {
            return isThere(p) ? square[p] : NONE;
        }

        boolean isFree(int s) {
            return s >= 0 && s < SQUARES && standing[s] == NONE;
        }

        boolean isHeldBy(int s, int ofSide) {
            int p = s >= 0 && s < SQUARES ? standing[s] : NONE;
            return p >= 0 && p < count && p < MOST_PIECES && side[p] == ofSide;
        }

        // ---- changes: each answers whether it could be

        boolean addPiece(int ofKind, int withFigure, int ofSide, int s) {
            if (count < 0 || count >= MOST_PIECES || !isKind(ofKind) || !isFigure(withFigure)
                    || !isSide(ofSide) || !isFree(s)) {
                return false;
            }
            kind[count] = ofKind;
            figure[count] = withFigure;
            side[count] = ofSide;
            square[count] = s;
            standing[s] = count;
            count++;
            return true;
        }

        boolean movePiece(int p, int s) {
            if (!has(p) || !isSquare(s) || standing[s] != NONE && standing[s] != p) {
                return false;
            }
            takeOff(p);
            square[p] = s;
            standing[s] = p;
            return true;
        }

        boolean takeOff(int p) {
            if (!has(p) || !isSquare(square[p])) {
                return false;
            }
            standing[square[p]] = NONE;
            square[p] = TAKEN;
            return true;
        }

        void takeAllOff() {
            for (int p = 0; p < count; p++) {
                takeOff(p);
            }
        }

        boolean turnInto(int p, int ofKind, int withFigure) {
            if (!has(p) || !isKind(ofKind) || !isFigure(withFigure)) {
                return false;
            }
            kind[p] = ofKind;
            figure[p] = withFigure;
            return true;
        }

        boolean giveTurn(int toSide) {
            if (!isSide(toSide)) {
                return false;
            }
            turn = toSide;
            return true;
        }

        boolean passWithinLast(int n) {
            if (n < 1 || n > MOST_DAYS || day + n > LAST_DAY) {
                return false;
            }
            for (int i = 0; i < n; i++) {
                passDay(0, false);
            }
            return true;
        }

        // ---- days

        void passDays(int n) {
            for (int i = 0; i < n; i++) {
                passDay(0, false);
            }
        }

        /** A DAY, those in mute (bits) without IDEAS, all EARS 1 if it rains: whether one went. */
        boolean passDay(int mute, boolean rains) {
            day++;
            int p = goerOn(day, mute, rains);
            if (p == NONE) {
                thought = thought < MOST_THOUGHT ? thought + 1 : MOST_THOUGHT;
            } else {
                int s = ideaOf(p, day);
                if (isSquare(s)) {
                    takeOff(standing[s]);
                }
                movePiece(p, s);
            }
            turn = 1 - turn;
            return p != NONE;
        }

        /** Who goes on a DAY, of those whose TURN it is: more than half of them agree; or NONE. */
        int goerOn(int d, int mute, boolean rains) {
            int best = NONE;
            int most = 0;
            for (int p = 0; p < count; p++) {
                boolean mayGo = isThereOf(p, turn) && (mute >> p & 1) == 0;
                if (mayGo && ideaOf(p, d) != NONE) {
                    int heardBy = Integer.bitCount(hearersOf(p, rains));
                    if (heardBy > most) {
                        best = p;
                        most = heardBy;
                    }
                }
            }
            return 2 * most > howManyOf(turn) ? best : NONE;
        }

        /** Those (bits) who hear the IDEA of one, or would: it itself, and its SIDE within their EARS. */
        int hearersOf(int p, boolean rains) {
            if (!isThere(p)) {
                return 0;
            }
            int bits = 1 << p;
            for (int q = 0; q < count; q++) {
                if (isThereOf(q, side[p])) {
                    int ears = rains ? 1 : Kinds.earsWith(kind[q], figure[q]);
                    if (far(square[q], square[p]) <= ears) {
                        bits |= 1 << q;
                    }
                }
            }
            return bits;
        }

        // ---- ideas

        int ideaOf(int p, int d) {
            if (!isThere(p)) {
                return NONE;
            }
            switch (kind[p]) {
                case KNIGHT: return knightIdea(p);
                case ROOK:
                case DEAF: return slideIdea(p, 1, 0);
                case BISHOP: return bishopIdea(p, d);
                case QUEEN: {
                    int ahead = slideIdea(p, 1, 0);
                    return ahead != NONE ? ahead : slideIdea(p, 0, 1);
                }
                case KING: return kingIdea(p);
                case NUN: {
                    int left = squareFrom(p, 0, -1);
                    return isFree(left) ? left : bishopIdea(p, d);
                }
                case PAWN:
                default: return pawnIdea(p);
            }
        }

        int pawnIdea(int p) {
            int ahead = squareFrom(p, 1, 0);
            if (isFree(ahead)) {
                return ahead;
            }
            int right = squareFrom(p, 1, 1);
            return isHeldBy(right, 1 - side[p]) ? right : NONE;
        }

        int knightIdea(int p) {
            int right = squareFrom(p, 2, 1);
            if (right != NONE && !isHeldBy(right, side[p])) {
                return right;
            }
            int left = squareFrom(p, 2, -1);
            return left != NONE && !isHeldBy(left, side[p]) ? left : NONE;
        }

        int bishopIdea(int p, int d) {
            int right = squareFrom(p, 1, 1);
            int every = figure[p] + 2;
            boolean isItsDay = every > 0 && d % every == 0;
            return isItsDay && right != NONE && !isHeldBy(right, side[p]) ? right : NONE;
        }

        int kingIdea(int p) {
            int back = squareFrom(p, -1, 0);
            if (!isFree(back)) {
                return NONE;
            }
            for (int q = 0; q < count; q++) {
                if (isThereOf(q, 1 - side[p]) && far(square[q], square[p]) <= 1) {
                    return back;
                }
            }
            return NONE;
        }

        /** As far as it goes that way over free ones, or to the first of the other SIDE. */
        int slideIdea(int p, int rows, int columns) {
            int reached = NONE;
            for (int steps = 1; steps < WIDTH; steps++) {
                int s = squareFrom(p, steps * rows, steps * columns);
                if (isHeldBy(s, 1 - side[p])) {
                    return s;
                }
                if (!isFree(s)) {
                    return reached;
                }
                reached = s;
            }
            return reached;
        }

        /** The SQUARE so many rows FORWARD and columns right of one that is THERE; NONE: off the board. */
        int squareFrom(int p, int rows, int columns) {
            int row = square[p] / WIDTH + (side[p] == 0 ? rows : -rows);
            int column = square[p] % WIDTH + columns;
            boolean isOnBoard = row >= 0 && row < WIDTH && column >= 0 && column < WIDTH;
            return isOnBoard ? row * WIDTH + column : NONE;
        }

        // ---- what is told of all

        int howManyOf(int ofSide) {
            int number = 0;
            for (int p = 0; p < count; p++) {
                number += isThereOf(p, ofSide) ? 1 : 0;
            }
            return number;
        }

        int howManyThere() {
            return howManyOf(0) + howManyOf(1);
        }

        int bitsThere() {
            int bits = 0;
            for (int p = 0; p < count; p++) {
                bits |= isThere(p) ? 1 << p : 0;
            }
            return bits;
        }

        int worthOf(int ofSide) {
            int worth = 0;
            for (int p = 0; p < count; p++) {
                worth += isThereOf(p, ofSide) ? Kinds.worthWith(kind[p], figure[p]) : 0;
            }
            return worth;
        }

        /** The WORTH of its SIDE, one itself not counted. */
        int worthWithout(int p) {
            if (!has(p)) {
                return 0;
            }
            return worthOf(side[p]) - (isThere(p) ? Kinds.worthWith(kind[p], figure[p]) : 0);
        }

        /** What one has of the DAYS in which two choose: WORTH of its SIDE, less 5, if it is TAKEN. */
        int gainOf(int p) {
            if (!has(p)) {
                return 0;
            }
            return worthOf(side[p]) - (isThere(p) ? 0 : 5);
        }

        int groupsOf(int ofSide) {
            int groups = 0;
            int grouped = 0;
            for (int p = 0; p < count; p++) {
                if (isThereOf(p, ofSide) && (grouped >> p & 1) == 0) {
                    grouped |= groupAround(p);
                    groups++;
                }
            }
            return groups;
        }

        /** The group (bits) of one: each round those who hear or are heard by any of it are of it. */
        int groupAround(int p) {
            int group = 1 << p;
            for (int round = 1; round < count; round++) {
                for (int q = 0; q < count; q++) {
                    int hearers = isThereOf(q, side[p]) ? hearersOf(q, false) : 0;
                    if ((group >> q & 1) != 0) {
                        group |= hearers;
                    } else if ((group & hearers) != 0) {
                        group |= 1 << q;
                    }
                }
            }
            return group;
        }

        int farthestOf(int ofSide) {
            int best = NONE;
            int most = NONE;
            for (int p = 0; p < count; p++) {
                if (isThereOf(p, ofSide)) {
                    int row = square[p] / WIDTH;
                    int forward = ofSide == 0 ? row : WIDTH - 1 - row;
                    if (forward > most) {
                        best = p;
                        most = forward;
                    }
                }
            }
            return best;
        }

        int pairsSideBySide() {
            int pairs = 0;
            for (int p = 0; p < count; p++) {
                for (int q = 0; q < count; q++) {
                    if (isThereOf(p, 0) && isThereOf(q, 1) && far(square[p], square[q]) == 1) {
                        pairs++;
                    }
                }
            }
            return pairs;
        }

        int quietOn(int d) {
            int bits = 0;
            for (int p = 0; p < count; p++) {
                bits |= isThere(p) && ideaOf(p, d) == NONE ? 1 << p : 0;
            }
            return bits;
        }
    }

    /** A SHELF, and room for the ROW that it may hold. */
    private static final class Shelf {
        int holds = HOLDS_NOTHING;
        int kind = 0;
        int figure = 0;
        int sort = BYTES;
        int size = 0;
        final int[] elements = new int[MOST_ELEMENTS];

        void becomesRow(int ofSort, int n) {
            holds = HOLDS_ROW;
            sort = ofSort;
            size = n;
            Arrays.fill(elements, 0);
        }

        boolean hasPlace(int i) {
            return i >= 0 && i < size && i < MOST_ELEMENTS;
        }

        /** Whether n places are there from i on; none are there from the end on, too. */
        boolean hasPlaces(int i, int n) {
            return n >= 0 && n <= size && i >= 0 && i <= size - n;
        }

        int elementAt(int i) {
            return hasPlace(i) ? elements[i] : 0;
        }

        boolean putIn(int i, int v) {
            if (!hasPlace(i)) {
                return false;
            }
            elements[i] = sort == BYTES ? (byte) v : sort == SHORTS ? (short) v : v;
            return true;
        }

        /** Whether the element is the least number of its SORT. */
        boolean isSkipped(int i) {
            int least = sort == BYTES ? LEAST_BYTE : sort == SHORTS ? LEAST_SHORT : LEAST_INT;
            return elementAt(i) == least;
        }

        // ---- as a text

        /** How many digits stand behind the letter at a place; NONE if it is no letter of a STATEMENT. */
        int digitsBehind(int place) {
            switch (elementAt(place)) {
                case 'p': return 5;
                case 'm': return 3;
                case 'x': return 1;
                case 't': return 1;
                case 'k': return 3;
                case 'd': return 2;
                default: return NONE;
            }
        }

        /** The place of the first byte with which no text of a GAME can go on; NONE if it is one. */
        int wrongByte() {
            if (size == 0) {
                return 0;
            }
            int digitsLeft = NONE;
            for (int place = 0; place < size; place++) {
                int sign = elementAt(place);
                if (digitsLeft == NONE) {
                    digitsLeft = digitsBehind(place);
                    if (digitsLeft == NONE) {
                        return place;
                    }
                } else if (digitsLeft > 0) {
                    if (sign < '0' || sign > '9') {
                        return place;
                    }
                    digitsLeft--;
                } else {
                    if (sign != ';') {
                        return place;
                    }
                    digitsLeft = NONE;
                }
            }
            return digitsLeft == NONE ? NONE : size;
        }

        int digitAt(int place) {
            return elementAt(place) - '0';
        }

        int twoDigitsAt(int place) {
            return 10 * digitAt(place) + digitAt(place + 1);
        }
    }
}
