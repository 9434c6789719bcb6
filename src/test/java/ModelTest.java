import java.math.BigInteger;
import java.util.ArrayList;
import java.util.HashSet;
import java.util.List;
import java.util.Random;
import java.util.Set;
import java.util.TreeSet;
import java.util.function.Function;
import java.util.regex.Pattern;

/** Chance calls (of told seeds) on the class and on a second, slow telling of the document: all answers alike. */
public final class ModelTest {
    static final int OBJECTS = 3000;
    static final int CALLS = 500;

    // ---- the second telling

    static final class Man {
        int kind;
        int figure;
        int side;
        boolean there = true;
        int row;
        int column;

        Man(int kind, int figure, int side, int square) {
            this.kind = kind;
            this.figure = figure;
            this.side = side;
            goTo(square);
        }

        Man(Man m) {
            this(m.kind, m.figure, m.side, m.square());
            there = m.there;
        }

        void goTo(int square) {
            row = square / 6;
            column = square % 6;
            there = true;
        }

        int square() {
            return row * 6 + column;
        }

        int squareOr(int taken) {
            return there ? square() : taken;
        }

        int forward() {
            return side == 0 ? 1 : -1;
        }

        int ears() {
            return new int[] {2, 3, figure, 2 + 2, figure + 3, 5, 0, 4}[kind];
        }

        int worth() {
            return new int[] {1, 3, 5, figure / 3 + 1, 9, 9, 4, figure / 3 + 1}[kind];
        }
    }

    static int cost(int kind, int figure) {
        return new int[] {1, 3, figure + 1, 2, 2 * (figure + 1), 0, figure + 1, 1}[kind];
    }

    static int toss(int kind, int figure) {
        if (figure == 0 || kind == 3 || kind == 5 || kind == 7) {
            return -15;
        }
        if (kind == 6) {
            return 200 + cost(6, figure);
        }
        return kind == 2 || kind == 4 ? 100 + figure : figure;
    }

    static final class World {
        final List<Man> men = new ArrayList<>();
        int turn;
        int thought;
        int day;

        World() {
        }

        World(World w) {
            for (Man m : w.men) {
                men.add(new Man(m));
            }
            turn = w.turn;
            thought = w.thought;
            day = w.day;
        }

        Man at(int row, int column) {
            for (Man m : men) {
                if (m.there && m.row == row && m.column == column) {
                    return m;
                }
            }
            return null;
        }

        Man at(int square) {
            return at(square / 6, square % 6);
        }

        boolean inside(int row, int column) {
            return row >= 0 && row <= 5 && column >= 0 && column <= 5;
        }

        boolean free(int row, int column) {
            return inside(row, column) && at(row, column) == null;
        }

        boolean foe(Man m, int row, int column) {
            Man other = at(row, column);
            return inside(row, column) && other != null && other.side != m.side;
        }

        boolean open(Man m, int row, int column) {
            return free(row, column) || foe(m, row, column);
        }

        int line(Man m, int rows, int columns) {
            int answer = -4;
            int row = m.row + rows;
            int column = m.column + columns;
            while (free(row, column)) {
                answer = row * 6 + column;
                row += rows;
                column += columns;
            }
            return foe(m, row, column) ? row * 6 + column : answer;
        }

        int bishop(Man m, int onDay) {
            int row = m.row + m.forward();
            return open(m, row, m.column + 1) && onDay % (m.figure + 2) == 0 ? row * 6 + m.column + 1 : -4;
        }

        int idea(Man m, int onDay) {
            if (!m.there) {
                return -4;
            }
            int f = m.forward();
            int r = m.row;
            int c = m.column;
            if (m.kind == 0) {
                if (free(r + f, c)) {
                    return (r + f) * 6 + c;
                }
                return foe(m, r + f, c + 1) ? (r + f) * 6 + c + 1 : -4;
            }
            if (m.kind == 1) {
                if (open(m, r + 2 * f, c + 1)) {
                    return (r + 2 * f) * 6 + c + 1;
                }
                return open(m, r + 2 * f, c - 1) ? (r + 2 * f) * 6 + c - 1 : -4;
            }
            if (m.kind == 2 || m.kind == 6) {
                return line(m, f, 0);
            }
            if (m.kind == 3) {
                return bishop(m, onDay);
            }
            if (m.kind == 4) {
                int up = line(m, f, 0);
                return up == -4 ? line(m, 0, 1) : up;
            }
            if (m.kind == 5) {
                boolean near = false;
                for (int dr = -1; dr <= 1; dr++) {
                    for (int dc = -1; dc <= 1; dc++) {
                        near |= foe(m, r + dr, c + dc);
                    }
                }
                return near && free(r - f, c) ? (r - f) * 6 + c : -4;
            }
            return free(r, c - 1) ? r * 6 + c - 1 : bishop(m, onDay);
        }

        int far(Man a, Man b) {
            return Math.max(Math.abs(a.row - b.row), Math.abs(a.column - b.column));
        }

        boolean hears(Man hearer, Man m, boolean rain) {
            if (!hearer.there || !m.there || hearer.side != m.side) {
                return false;
            }
            return hearer == m || far(hearer, m) <= (rain ? 1 : hearer.ears());
        }

        int heardBy(Man m, boolean rain) {
            int n = 0;
            for (Man h : men) {
                n += hears(h, m, rain) ? 1 : 0;
            }
            return n;
        }

        int number(int side) {
            int n = 0;
            for (Man m : men) {
                n += m.there && (side == 2 || m.side == side) ? 1 : 0;
            }
            return n;
        }

        int worth(int side) {
            int n = 0;
            for (Man m : men) {
                n += m.there && m.side == side ? m.worth() : 0;
            }
            return n;
        }

        int there() {
            int bits = 0;
            for (int p = 0; p < men.size(); p++) {
                bits |= men.get(p).there ? 1 << p : 0;
            }
            return bits;
        }

        Man goer(int onDay, Set<Integer> mute, boolean rain) {
            Man best = null;
            for (int p = 0; p < men.size(); p++) {
                Man m = men.get(p);
                if (m.side == turn && !mute.contains(p) && idea(m, onDay) != -4
                        && (best == null || heardBy(m, rain) > heardBy(best, rain))) {
                    best = m;
                }
            }
            return best != null && heardBy(best, rain) * 2 > number(turn) ? best : null;
        }

        World day(Set<Integer> mute, boolean rain) {
            day++;
            Man m = goer(day, mute, rain);
            if (m == null) {
                thought = Math.min(9999, thought + 1);
            } else {
                int square = idea(m, day);
                Man there = at(square);
                if (there != null) {
                    there.there = false;
                }
                m.goTo(square);
            }
            turn = 1 - turn;
            return this;
        }

        World days(int n) {
            for (int i = 0; i < n; i++) {
                day(Set.of(), false);
            }
            return this;
        }

        World then(int n) {
            return new World(this).days(n);
        }

        List<Integer> squares() {
            List<Integer> list = new ArrayList<>();
            for (Man m : men) {
                list.add(m.squareOr(36));
            }
            return list;
        }
    }

    static final class Held {
        boolean row;
        int kind;
        int figure;
        int sort;
        long[] told;

        boolean skipped(int i) {
            return told[i] == (sort == 0 ? Byte.MIN_VALUE : sort == 1 ? Short.MIN_VALUE : Integer.MIN_VALUE);
        }
    }

    static final class Model {
        World now = new World();
        World image;
        final Held[] shelf = new Held[8];

        boolean has(int p) {
            return p >= 0 && p < now.men.size();
        }

        static boolean in(int v, int least, int most) {
            return v >= least && v <= most;
        }

        int rowIn(int d) {
            return shelf[d] == null ? -11 : shelf[d].row ? 0 : -12;
        }

        int kindIn(int d) {
            return shelf[d] == null ? -11 : shelf[d].row ? -12 : 0;
        }

        static final Pattern STATEMENTS =
                Pattern.compile("(p\\d{5};|m\\d{3};|x\\d;|t\\d;|k\\d{3};|d\\d{2};)+");

        int game(int d) {
            if (!in(d, 0, 7)) {
                return -1;
            }
            if (rowIn(d) != 0) {
                return rowIn(d);
            }
            if (shelf[d].sort != 0) {
                return -12;
            }
            StringBuilder text = new StringBuilder();
            for (long v : shelf[d].told) {
                text.append((char) (v & 0xffff));
            }
            if (!STATEMENTS.matcher(text).matches()) {
                // The fault is behind the longest head that something could still be put behind.
                for (int n = text.length(); ; n--) {
                    if (canGoOn(text.substring(0, n))) {
                        return -1000 - n;
                    }
                }
            }
            World w = new World(now);
            int place = 0;
            int number = 0;
            for (String statement : text.toString().split(";")) {
                if (!does(w, statement)) {
                    return -2000 - place;
                }
                place += statement.length() + 1;
                number++;
            }
            now = w;
            return number;
        }

        static boolean canGoOn(String head) {
            for (String more : new String[] {"", ";", "0;", "00;", "000;", "0000;", "00000;", "t0;"}) {
                if (STATEMENTS.matcher(head + more).matches()) {
                    return true;
                }
            }
            return false;
        }

        static boolean does(World w, String s) {
            int number = Integer.parseInt(s.substring(1));
            switch (s.charAt(0)) {
                case 'p': {
                    int kind = number / 10000;
                    int figure = number / 1000 % 10;
                    int side = number / 100 % 10;
                    int square = number % 100;
                    if (kind > 7 || side > 1 || square > 35 || w.men.size() == 10 || w.at(square) != null) {
                        return false;
                    }
                    return w.men.add(new Man(kind, figure, side, square));
                }
                case 'm': {
                    int p = number / 100;
                    int square = number % 100;
                    if (p >= w.men.size() || square > 35) {
                        return false;
                    }
                    Man m = w.men.get(p);
                    if (w.at(square) != null && w.at(square) != m) {
                        return false;
                    }
                    m.goTo(square);
                    return true;
                }
                case 'x': {
                    if (number >= w.men.size() || !w.men.get(number).there) {
                        return false;
                    }
                    w.men.get(number).there = false;
                    return true;
                }
                case 't':
                    w.turn = number;
                    return number < 2;
                case 'k': {
                    if (number / 100 >= w.men.size() || number / 10 % 10 > 7) {
                        return false;
                    }
                    w.men.get(number / 100).kind = number / 10 % 10;
                    w.men.get(number / 100).figure = number % 10;
                    return true;
                }
                default:
                    if (number < 1 || number > 60 || w.day + number > 999) {
                        return false;
                    }
                    w.days(number);
                    return true;
            }
        }

        int piece(int p, int what) {
            if (!has(p) || !in(what, 0, 6)) {
                return -1;
            }
            Man m = now.men.get(p);
            return new int[] {m.kind, m.figure, m.side, m.squareOr(-4), m.ears(), m.worth(),
                now.idea(m, now.day + 1)}[what];
        }

        int on(int square) {
            return !in(square, 0, 35) ? -1 : now.at(square) == null ? -4 : now.men.indexOf(now.at(square));
        }

        int comes(int d, int side, int square) {
            if (!in(d, 0, 7) || !in(side, 0, 1) || !in(square, 0, 35)) {
                return -1;
            }
            if (kindIn(d) != 0) {
                return kindIn(d);
            }
            if (now.men.size() == 10) {
                return -2;
            }
            if (now.at(square) != null) {
                return -3;
            }
            now.men.add(new Man(shelf[d].kind, shelf[d].figure, side, square));
            return now.men.size() - 1;
        }

        int stands(int p, int square) {
            if (!has(p) || !in(square, 0, 35)) {
                return -1;
            }
            Man m = now.men.get(p);
            if (now.at(square) != null && now.at(square) != m) {
                return -3;
            }
            int before = m.squareOr(-4);
            m.goTo(square);
            return before;
        }

        int takes(int p) {
            if (!has(p)) {
                return -1;
            }
            int before = now.men.get(p).squareOr(-3);
            now.men.get(p).there = false;
            return before;
        }

        int turn(int side) {
            if (!in(side, 0, 1)) {
                return -1;
            }
            int before = now.turn;
            now.turn = side;
            return before;
        }

        int days(int n) {
            if (!in(n, 1, 60)) {
                return -1;
            }
            return now.day + n > 999 ? -3 : now.days(n).number(2);
        }

        int squareThen(int p, int n) {
            return !has(p) || !in(n, 0, 60) ? -1 : now.then(n).men.get(p).squareOr(-4);
        }

        int then(int n, int what) {
            if (!in(n, 0, 60) || !in(what, 0, 3)) {
                return -1;
            }
            World w = now.then(n);
            return new int[] {w.there(), w.thought, w.worth(0), w.worth(1)}[what];
        }

        int falls(int p) {
            if (p < -1 || p >= now.men.size()) {
                return -1;
            }
            for (int n = 0; n <= 60; n++) {
                World w = now.then(n);
                for (int q = 0; p == -1 && q < w.men.size(); q++) {
                    if (now.men.get(q).there && !w.men.get(q).there) {
                        return q;
                    }
                }
                if (p >= 0 && !w.men.get(p).there) {
                    return n;
                }
            }
            return -4;
        }

        int still() {
            List<List<Integer>> boards = new ArrayList<>();
            World w = new World(now);
            for (int n = 0; n <= 60; n++) {
                boards.add(w.squares());
                w.days(1);
            }
            for (int n = 0; n <= 40; n++) {
                if (new HashSet<>(boards.subList(n, n + 21)).size() == 1) {
                    return n;
                }
            }
            return -4;
        }

        int next(int what) {
            if (!in(what, 0, 2)) {
                return -1;
            }
            Man m = now.goer(now.day + 1, Set.of(), false);
            if (m == null) {
                return what == 2 ? 0 : -4;
            }
            return what == 0 ? now.men.indexOf(m) : what == 1 ? now.idea(m, now.day + 1) : now.heardBy(m, false);
        }

        int bits(Function<Integer, Boolean> ofWhom) {
            int bits = 0;
            for (int p = 0; p < now.men.size(); p++) {
                bits |= ofWhom.apply(p) ? 1 << p : 0;
            }
            return bits;
        }

        int heard(int p) {
            if (!has(p)) {
                return -1;
            }
            Man m = now.men.get(p);
            return m.there ? bits(q -> now.hears(now.men.get(q), m, false)) : -3;
        }

        int danger(int side) {
            if (!in(side, 0, 1)) {
                return -1;
            }
            Set<Integer> wanted = new TreeSet<>();
            for (Man m : now.men) {
                if (m.side != side) {
                    wanted.add(now.idea(m, now.day + 1));
                }
            }
            return bits(p -> now.men.get(p).side == side && wanted.contains(now.men.get(p).squareOr(36)));
        }

        int stand(int p, int n, int what) {
            if (!has(p) || !in(n, 0, 20) || !in(what, 0, 1)) {
                return -1;
            }
            if (!now.men.get(p).there) {
                return -3;
            }
            int best = -1;
            int most = -1000;
            for (int square = 0; square < 36; square++) {
                if (now.at(square) == null || now.at(square) == now.men.get(p)) {
                    World w = new World(now);
                    w.men.get(p).goTo(square);
                    w.days(n);
                    int side = w.men.get(p).side;
                    if (w.worth(side) - w.worth(1 - side) > most) {
                        most = w.worth(side) - w.worth(1 - side);
                        best = square;
                    }
                }
            }
            return what == 0 ? best : most + 100;
        }

        static int worthOfOthers(World w, int p) {
            int worth = 0;
            for (Man m : w.men) {
                worth += m.there && m.side == w.men.get(p).side && m != w.men.get(p) ? m.worth() : 0;
            }
            return worth;
        }

        int off(int n) {
            if (!in(n, 0, 30)) {
                return -1;
            }
            int best = -4;
            int most = -1;
            for (int p = now.men.size() - 1; p >= 0; p--) {
                if (now.men.get(p).there) {
                    World w = new World(now);
                    w.men.get(p).there = false;
                    w.days(n);
                    int without = worthOfOthers(w, p);
                    if (without > worthOfOthers(now.then(n), p) && without >= most) {
                        most = without;
                        best = p;
                    }
                }
            }
            return best;
        }

        int ears(int p, int other) {
            if (!has(p) || !has(other) || p == other) {
                return -1;
            }
            World w = new World(now);
            for (int figure = 0; figure <= 9; figure++) {
                w.men.get(p).figure = figure;
                if (w.hears(w.men.get(p), w.men.get(other), false)) {
                    return figure;
                }
            }
            return -4;
        }

        int side(int side, int what) {
            if (!in(side, 0, 1) || !in(what, 0, 3)) {
                return -1;
            }
            if (what == 0) {
                return groups(side);
            }
            int best = -4;
            int most = -1;
            for (Man m : now.men) {
                int forward = side == 0 ? m.row : 5 - m.row;
                if (m.there && m.side == side && forward > most) {
                    most = forward;
                    best = now.men.indexOf(m);
                }
            }
            return what == 1 ? now.worth(side) : what == 2 ? best : now.number(side);
        }

        int groups(int side) {
            List<Set<Man>> groups = new ArrayList<>();
            for (Man m : now.men) {
                if (m.there && m.side == side) {
                    Set<Man> group = new HashSet<>();
                    group.add(m);
                    for (Set<Man> other : new ArrayList<>(groups)) {
                        for (Man o : other) {
                            if (now.hears(o, m, false) || now.hears(m, o, false)) {
                                group.addAll(other);
                                groups.remove(other);
                                break;
                            }
                        }
                    }
                    groups.add(group);
                }
            }
            return groups.size();
        }

        int free(int what) {
            if (!in(what, 0, 2)) {
                return -1;
            }
            int free = 0;
            int pairs = 0;
            for (int square = 0; square < 36; square++) {
                free += now.at(square) == null ? 1 : 0;
            }
            for (Man a : now.men) {
                for (Man b : now.men) {
                    pairs += a.there && b.there && a.side < b.side && now.far(a, b) == 1 ? 1 : 0;
                }
            }
            int quiet = bits(p -> now.men.get(p).there && now.idea(now.men.get(p), now.day + 1) == -4);
            return what == 0 ? free : what == 1 ? pairs : quiet;
        }

        static boolean tells(Held row, World start, int p, int behind) {
            for (int i = 0; i < row.told.length; i++) {
                if (i + behind > 0) {
                    start.days(1);
                }
                if (!row.skipped(i) && row.told[i] != start.men.get(p).squareOr(36)) {
                    return false;
                }
            }
            return true;
        }

        int whatIs(int d, int p, int what) {
            if (!in(d, 0, 7) || !has(p) || !in(what, 0, 1)) {
                return -1;
            }
            if (rowIn(d) != 0) {
                return rowIn(d);
            }
            int bits = 0;
            for (int v = 0; v < (what == 0 ? 8 : 10); v++) {
                World w = new World(now);
                if (what == 0) {
                    w.men.get(p).kind = v;
                } else {
                    w.men.get(p).figure = v;
                }
                bits |= tells(shelf[d], w, p, 0) ? 1 << v : 0;
            }
            return bits;
        }

        int whereFrom(int d, int p, int what) {
            if (!in(d, 0, 7) || !has(p) || !in(what, 0, 2)) {
                return -1;
            }
            if (!now.men.get(p).there) {
                return -3;
            }
            if (rowIn(d) != 0) {
                return rowIn(d);
            }
            TreeSet<Integer> squares = new TreeSet<>();
            for (int square = 0; square < 36; square++) {
                if (now.at(square) == null || now.at(square) == now.men.get(p)) {
                    World w = new World(now);
                    w.men.get(p).goTo(square);
                    if (tells(shelf[d], w, p, 1)) {
                        squares.add(square);
                    }
                }
            }
            if (what == 0) {
                return squares.size();
            }
            return squares.isEmpty() ? -4 : what == 1 ? squares.first() : squares.last();
        }

        int two(int a, int b, int n) {
            if (!has(a) || !has(b) || a == b || !in(n, 1, 30)) {
                return -1;
            }
            if (!now.men.get(a).there || !now.men.get(b).there) {
                return -3;
            }
            int[][][] has = new int[2][2][];
            for (int ca = 0; ca < 2; ca++) {
                for (int cb = 0; cb < 2; cb++) {
                    Set<Integer> mute = new HashSet<>();
                    if (ca == 0) {
                        mute.add(a);
                    }
                    if (cb == 0) {
                        mute.add(b);
                    }
                    World w = new World(now);
                    for (int i = 0; i < n; i++) {
                        w.day(mute, false);
                    }
                    has[ca][cb] = new int[] {gain(w, a), gain(w, b)};
                }
            }
            for (int ca = 0; ca < 2; ca++) {
                for (int cb = 0; cb < 2; cb++) {
                    if (has[1 - ca][cb][0] <= has[ca][cb][0] && has[ca][1 - cb][1] <= has[ca][cb][1]) {
                        return 10 * ca + cb;
                    }
                }
            }
            return -4;
        }

        static int gain(World w, int p) {
            return w.worth(w.men.get(p).side) - (w.men.get(p).there ? 0 : 5);
        }

        long rain(int p, int n, int t, int part) {
            if (!has(p) || !in(n, 0, 7) || !in(t, 2, 20) || !in(part, 0, 1)) {
                return 1000000001L;
            }
            BigInteger above = BigInteger.ZERO;
            for (int course = 0; course < 1 << n; course++) {
                World w = new World(now);
                BigInteger ways = BigInteger.ONE;
                for (int i = 0; i < n; i++) {
                    boolean wet = (course >> i & 1) == 1;
                    w.day(Set.of(), wet);
                    ways = ways.multiply(BigInteger.valueOf(wet ? 1 : t - 1));
                }
                above = w.men.get(p).there ? above.add(ways) : above;
            }
            return part(above, BigInteger.valueOf(t).pow(n), part);
        }

        static long part(BigInteger above, BigInteger below, int part) {
            BigInteger g = above.gcd(below);
            return (part == 0 ? above : below).divide(g).longValueExact();
        }

        long share(int side, int part) {
            if (!in(side, 0, 1) || !in(part, 0, 1)) {
                return 1000000001L;
            }
            int own = now.worth(side);
            if (own == 0) {
                return part;
            }
            return part(BigInteger.valueOf(own), BigInteger.valueOf(now.worth(0) + now.worth(1)), part);
        }

        int forged(int d) {
            if (!in(d, 0, 7)) {
                return -1;
            }
            if (rowIn(d) != 0) {
                return rowIn(d);
            }
            for (int p = 0; p < shelf[d].told.length; p++) {
                if (p >= now.men.size() || now.squares().get(p) != shelf[d].told[p]) {
                    return p;
                }
            }
            return -4;
        }

        int judge(int d) {
            if (!in(d, 0, 7)) {
                return -1;
            }
            if (rowIn(d) != 0) {
                return rowIn(d);
            }
            World w = new World(now);
            for (int i = 0; i < shelf[d].told.length; i++, w.days(1)) {
                if (!shelf[d].skipped(i) && w.number(2) != shelf[d].told[i]) {
                    return i;
                }
            }
            return -4;
        }

        int games(int n, int z, int what) {
            if (!in(n, 1, 20) || !in(what, 0, 1)) {
                return -1;
            }
            int there = 0;
            int thought = 0;
            for (int i = 0; i < n; i++) {
                World w = new World(now);
                Set<Integer> stood = new HashSet<>();
                for (Man m : w.men) {
                    z = (int) (z * 1103515245L + 12345L);
                    int square = (int) ((z & 0x7fffffffL) / 65536 % 36);
                    while (!stood.add(square)) {
                        square = square == 35 ? 0 : square + 1;
                    }
                    m.goTo(square);
                }
                w.days(16);
                there += w.number(2);
                thought += w.thought - now.thought;
            }
            return what == 0 ? there : thought;
        }

        int image() {
            image = new World(now);
            return now.day;
        }

        int restore() {
            if (image == null) {
                return -3;
            }
            now = new World(image);
            return now.day;
        }

        int count(int what) {
            return !in(what, 0, 4) ? -1
                    : new int[] {now.men.size(), now.day, now.turn, now.thought, now.there()}[what];
        }

        int keep(int d, int what, int k, int figure) {
            if (!in(d, 0, 7) || !in(what, 0, 1) || what == 1 && (!in(k, 0, 7) || !in(figure, 0, 9))) {
                return -1;
            }
            shelf[d] = null;
            if (what == 1) {
                shelf[d] = new Held();
                shelf[d].kind = k;
                shelf[d].figure = figure;
            }
            return 0;
        }

        int row(int d, int sort, int n) {
            if (!in(d, 0, 7) || !in(sort, 0, 2) || n > 100) {
                return -1;
            }
            if (n < 0) {
                return -14;
            }
            shelf[d] = new Held();
            shelf[d].row = true;
            shelf[d].sort = sort;
            shelf[d].told = new long[n];
            return 0;
        }

        int put(int d, int i, int v) {
            if (!in(d, 0, 7)) {
                return -1;
            }
            if (rowIn(d) != 0) {
                return rowIn(d);
            }
            if (!in(i, 0, shelf[d].told.length - 1)) {
                return -13;
            }
            int bits = shelf[d].sort == 0 ? 8 : shelf[d].sort == 1 ? 16 : 32;
            long low = v & ((1L << bits) - 1);
            shelf[d].told[i] = low >= 1L << bits - 1 ? low - (1L << bits) : low;
            return 0;
        }

        long element(int d, int i) {
            if (!in(d, 0, 7)) {
                return ILLEGAL_ARGUMENT;
            }
            if (rowIn(d) != 0 || !in(i, 0, shelf[d].told.length - 1)) {
                return ILLEGAL_STATE;
            }
            return shelf[d].told[i];
        }

        int copy(int d, int i, int e, int j, int n) {
            if (!in(d, 0, 7) || !in(e, 0, 7)) {
                return -1;
            }
            if (shelf[d] == null || shelf[e] == null) {
                return -11;
            }
            if (!shelf[d].row || !shelf[e].row || shelf[d].sort != shelf[e].sort) {
                return -12;
            }
            if (n < 0 || i < 0 || j < 0 || (long) i + n > shelf[d].told.length
                    || (long) j + n > shelf[e].told.length) {
                return -13;
            }
            long[] taken = shelf[d].told.clone();
            for (int k = 0; k < n; k++) {
                shelf[e].told[j + k] = taken[i + k];
            }
            return n;
        }

        int costOn(int d) {
            return !in(d, 0, 7) ? -1 : kindIn(d) != 0 ? kindIn(d) : cost(shelf[d].kind, shelf[d].figure);
        }

        int tossOn(int d) {
            return !in(d, 0, 7) ? -1 : kindIn(d) != 0 ? kindIn(d) : toss(shelf[d].kind, shelf[d].figure);
        }
    }

    // ---- the calls by chance

    static final long ILLEGAL_ARGUMENT = Long.MIN_VALUE;
    static final long ILLEGAL_STATE = Long.MIN_VALUE + 1;

    static int objects;
    static long wrong;
    static long calls;
    static TakenUpByThePieces x;
    static Model m;
    static Random random;
    static final List<String> made = new ArrayList<>();

    static boolean same(String call, long got, long want) {
        calls++;
        made.add(call + " = " + got);
        if (got != want) {
            wrong++;
            System.out.println("object " + objects + ": " + call + " answered " + got + ", due is " + want);
            if (wrong == 1) {
                made.forEach(System.out::println);
            }
        }
        return got == want;
    }

    static final int[] ODD = {-1, -2, Integer.MIN_VALUE, Integer.MAX_VALUE, 8, 10, 36, 100, 101, 1000};

    /** A number of the range, now and then one that is at its edge or out of it. */
    static int some(int least, int most) {
        int chance = random.nextInt(40);
        if (chance == 0) {
            return ODD[random.nextInt(ODD.length)];
        }
        if (chance == 1) {
            return least - 1;
        }
        if (chance == 2) {
            return most + 1;
        }
        return least + random.nextInt(most - least + 1);
    }

    static int somePiece() {
        return some(0, Math.max(0, m.now.men.size() - 1));
    }

    static String someText() {
        StringBuilder text = new StringBuilder();
        for (int n = random.nextInt(5); n >= 0; n--) {
            String piece = "" + random.nextInt(Math.min(10, m.now.men.size() + 2));
            String square = String.format("%02d", some(0, 35) & 63);
            String kind = "" + random.nextInt(random.nextInt(9) == 0 ? 10 : 8);
            String figure = "" + random.nextInt(10);
            String side = "" + random.nextInt(random.nextInt(9) == 0 ? 10 : 2);
            switch (random.nextInt(7)) {
                case 0:
                case 1: text.append("p").append(kind).append(figure).append(side).append(square); break;
                case 2: text.append("m").append(piece).append(square); break;
                case 3: text.append("x").append(piece); break;
                case 4: text.append("t").append(side); break;
                case 5: text.append("k").append(piece).append(kind).append(figure); break;
                default: text.append("d").append(String.format("%02d", random.nextInt(9) == 0 ? 60 : some(1, 6) & 63));
            }
            text.append(";");
        }
        if (random.nextInt(6) == 0) {
            int place = random.nextInt(text.length());
            String other = "pmxtkd;;0123456789!\u0080\u0000/:";
            text.setCharAt(place, other.charAt(random.nextInt(other.length())));
        }
        if (random.nextInt(8) == 0) {
            text.setLength(random.nextInt(text.length() + 1));
        }
        return text.toString();
    }

    static void tell(int d, String text) {
        same("row " + d, x.row(d, 0, text.length()), m.row(d, 0, text.length()));
        for (int i = 0; i < text.length(); i++) {
            same("put " + text.charAt(i), x.put(d, i, text.charAt(i)), m.put(d, i, text.charAt(i)));
        }
        same("game(" + d + ") " + text, x.game(d), m.game(d));
    }

    /** A ROW of what is truly so of one (or of how many are THERE, or of all SQUARES), with some put amiss. */
    static void tellRow(int d, int p, int kindOfRow) {
        int sort = random.nextInt(3);
        int n = kindOfRow == 3 ? random.nextInt(m.now.men.size() + 2) : random.nextInt(6);
        same("row " + d, x.row(d, sort, n), m.row(d, sort, n));
        int amiss = random.nextInt(3) == 0 ? random.nextInt(6) : -1;
        for (int i = 0; i < n; i++) {
            int v;
            if (kindOfRow == 3) {
                v = i < m.now.men.size() ? m.now.men.get(i).squareOr(36) : random.nextInt(37);
            } else if (kindOfRow == 2) {
                v = m.now.then(i).number(2);
            } else {
                v = m.has(p) ? m.now.then(i + kindOfRow).men.get(p).squareOr(36) : 5;
            }
            if (i == amiss) {
                v = random.nextInt(37);
            }
            if (random.nextInt(6) == 0) {
                v = new int[] {-128, -32768, Integer.MIN_VALUE, 128, 256 + v}[random.nextInt(5)];
            }
            same("put " + d + " " + i + " " + v, x.put(d, i, v), m.put(d, i, v));
        }
    }

    static long element(int d, int i) {
        try {
            return x.element(d, i);
        } catch (IllegalArgumentException e) {
            return ILLEGAL_ARGUMENT;
        } catch (IllegalStateException e) {
            return ILLEGAL_STATE;
        }
    }

    static void callByChance() {
        int p = somePiece();
        int d = some(0, 7);
        switch (random.nextInt(47)) {
            case 0: tell(random.nextInt(8), someText()); break;
            case 1: {
                int what = some(0, 6);
                same("piece(" + p + "," + what + ")", x.piece(p, what), m.piece(p, what));
                break;
            }
            case 2: {
                int square = some(0, 35);
                same("on(" + square + ")", x.on(square), m.on(square));
                break;
            }
            case 3:
            case 4:
            case 5: {
                int k = some(0, 7);
                int figure = some(0, 9);
                int side = some(0, 1);
                int square = some(0, 35);
                same("keep(" + d + ",1," + k + "," + figure + ")", x.keep(d, 1, k, figure), m.keep(d, 1, k, figure));
                same("comes(" + d + "," + side + "," + square + ")", x.comes(d, side, square),
                        m.comes(d, side, square));
                break;
            }
            case 6:
            case 7: {
                int square = some(0, 35);
                same("stands(" + p + "," + square + ")", x.stands(p, square), m.stands(p, square));
                break;
            }
            case 8: same("takes(" + p + ")", x.takes(p), m.takes(p)); break;
            case 9: {
                int side = some(0, 1);
                same("turn(" + side + ")", x.turn(side), m.turn(side));
                break;
            }
            case 10:
            case 11:
            case 12: {
                int n = random.nextInt(7) == 0 ? some(1, 60) : some(1, 4);
                same("days(" + n + ")", x.days(n), m.days(n));
                break;
            }
            case 13: {
                int n = some(0, 60);
                same("squareThen(" + p + "," + n + ")", x.squareThen(p, n), m.squareThen(p, n));
                break;
            }
            case 14: {
                int n = some(0, 60);
                int what = some(0, 3);
                same("then(" + n + "," + what + ")", x.then(n, what), m.then(n, what));
                break;
            }
            case 15: same("falls(" + p + ")", x.falls(p), m.falls(p)); break;
            case 16: same("falls(-1)", x.falls(-1), m.falls(-1)); break;
            case 17: same("still()", x.still(), m.still()); break;
            case 18:
            case 19: {
                int what = some(0, 2);
                same("next(" + what + ")", x.next(what), m.next(what));
                break;
            }
            case 20: same("heard(" + p + ")", x.heard(p), m.heard(p)); break;
            case 21: {
                int side = some(0, 1);
                same("danger(" + side + ")", x.danger(side), m.danger(side));
                break;
            }
            case 22: {
                int n = some(0, 20);
                int what = some(0, 1);
                same("stand(" + p + "," + n + "," + what + ")", x.stand(p, n, what), m.stand(p, n, what));
                break;
            }
            case 23: {
                int n = some(0, 30);
                same("off(" + n + ")", x.off(n), m.off(n));
                break;
            }
            case 24: {
                int other = somePiece();
                same("ears(" + p + "," + other + ")", x.ears(p, other), m.ears(p, other));
                break;
            }
            case 25: {
                int side = some(0, 1);
                int what = some(0, 3);
                same("side(" + side + "," + what + ")", x.side(side, what), m.side(side, what));
                break;
            }
            case 26: {
                int what = some(0, 2);
                same("free(" + what + ")", x.free(what), m.free(what));
                break;
            }
            case 27: {
                int shelf = random.nextInt(8);
                int what = some(0, 1);
                tellRow(shelf, p, 0);
                same("whatIs(" + shelf + "," + p + "," + what + ")", x.whatIs(shelf, p, what),
                        m.whatIs(shelf, p, what));
                break;
            }
            case 28: {
                int shelf = random.nextInt(8);
                int what = some(0, 2);
                tellRow(shelf, p, 1);
                same("whereFrom(" + shelf + "," + p + "," + what + ")", x.whereFrom(shelf, p, what),
                        m.whereFrom(shelf, p, what));
                break;
            }
            case 29: {
                int what = some(0, 1);
                same("whatIs(" + d + "," + p + "," + what + ")", x.whatIs(d, p, what), m.whatIs(d, p, what));
                what = some(0, 2);
                same("whereFrom(" + d + "," + p + "," + what + ")", x.whereFrom(d, p, what), m.whereFrom(d, p, what));
                break;
            }
            case 30: {
                int b = somePiece();
                int n = some(1, 30);
                same("two(" + p + "," + b + "," + n + ")", x.two(p, b, n), m.two(p, b, n));
                break;
            }
            case 31: {
                int n = some(0, 7);
                int t = some(2, 20);
                int part = some(0, 1);
                same("rain(" + p + "," + n + "," + t + "," + part + ")", x.rain(p, n, t, part), m.rain(p, n, t, part));
                break;
            }
            case 32: {
                int side = some(0, 1);
                int part = some(0, 1);
                same("share(" + side + "," + part + ")", x.share(side, part), m.share(side, part));
                break;
            }
            case 33: {
                int shelf = random.nextInt(8);
                tellRow(shelf, p, 3);
                same("forged(" + shelf + ")", x.forged(shelf), m.forged(shelf));
                break;
            }
            case 34: {
                int shelf = random.nextInt(8);
                tellRow(shelf, p, 2);
                same("judge(" + shelf + ")", x.judge(shelf), m.judge(shelf));
                break;
            }
            case 35: {
                same("forged(" + d + ")", x.forged(d), m.forged(d));
                same("judge(" + d + ")", x.judge(d), m.judge(d));
                same("game(" + d + ")", x.game(d), m.game(d));
                break;
            }
            case 36: {
                int n = some(1, 20);
                int z = random.nextInt();
                int what = some(0, 1);
                same("games(" + n + "," + z + "," + what + ")", x.games(n, z, what), m.games(n, z, what));
                break;
            }
            case 37: same("image()", x.image(), m.image()); break;
            case 38: {
                if (random.nextInt(4) == 0) {
                    same("restore()", x.restore(), m.restore());
                }
                break;
            }
            case 39: {
                int what = some(0, 4);
                same("count(" + what + ")", x.count(what), m.count(what));
                break;
            }
            case 40: {
                int what = some(0, 1);
                int k = some(0, 7);
                int figure = some(0, 9);
                same("keep(" + d + "," + what + "," + k + "," + figure + ")", x.keep(d, what, k, figure),
                        m.keep(d, what, k, figure));
                break;
            }
            case 41: {
                int sort = some(0, 2);
                int n = some(0, 100);
                same("row(" + d + "," + sort + "," + n + ")", x.row(d, sort, n), m.row(d, sort, n));
                break;
            }
            case 42: {
                int i = some(0, 20);
                int v = random.nextInt();
                same("put(" + d + "," + i + "," + v + ")", x.put(d, i, v), m.put(d, i, v));
                break;
            }
            case 43: {
                int i = some(0, 20);
                same("element(" + d + "," + i + ")", element(d, i), m.element(d, i));
                break;
            }
            case 44: {
                int e = some(0, 7);
                int i = some(0, 8);
                int j = some(0, 8);
                int n = some(0, 8);
                same("copy(" + d + "," + i + "," + e + "," + j + "," + n + ")", x.copy(d, i, e, j, n),
                        m.copy(d, i, e, j, n));
                break;
            }
            case 45: same("cost(" + d + ")", x.cost(d), m.costOn(d)); break;
            default: same("toss(" + d + ")", x.toss(d), m.tossOn(d));
        }
    }

    /** A full board, or nearly: all who come, each where nobody stands. */
    static void setUp() {
        for (int n = 7 + random.nextInt(4); n > 0; n--) {
            int kind = random.nextInt(8);
            int figure = random.nextInt(10);
            int side = random.nextInt(2);
            int square = random.nextInt(36);
            same("keep(0,1," + kind + "," + figure + ")", x.keep(0, 1, kind, figure), m.keep(0, 1, kind, figure));
            same("comes(0," + side + "," + square + ")", x.comes(0, side, square), m.comes(0, side, square));
        }
    }

    /** All pieces stand anew, as many as there is room for. */
    static void stirUp() {
        for (int p = 0; p < m.now.men.size(); p++) {
            int square = random.nextInt(36);
            same("stands(" + p + "," + square + ")", x.stands(p, square), m.stands(p, square));
        }
    }

    static void seedsAtTheEdge() {
        x = new TakenUpByThePieces();
        m = new Model();
        tell(0, "p00000;p13101;p25002;p34103;p45004;p55105;p66006;p77107;p02008;p15109;");
        for (int z : new int[] {0, 1, -1, -9, 12345, Integer.MIN_VALUE, Integer.MAX_VALUE}) {
            for (int what = 0; what < 2; what++) {
                same("games(20," + z + "," + what + ")", x.games(20, z, what), m.games(20, z, what));
            }
        }
    }

    /** Boards on which two have no pair, or both have IDEAS, or a loss of just 5 tells: rare by chance. */
    static void rarePairs() {
        for (String text : new String[] {"p51026;p60114;p42132;p42002;", "p41131;p61006;p22013;p71001;p41125;",
            "p41009;p02134;p12031;p20133;p10120;p30003;", "p62018;p41127;p40015;p50006;p40121;",
            "p25002;p42020;p62110;p30107;p31119;p44004;", "p03002;p20003;p71026;p43100;p75027;",
            "p50020;p12008;p73012;p55003;p40127;p23025;", "p15116;p60134;p40133;p14031;p43026;",
            "p41127;p60007;p42032;p62009;p21121;", "p11120;p72025;p21009;p41121;p50115;p00026;"}) {
            x = new TakenUpByThePieces();
            m = new Model();
            tell(0, text);
            for (int n = 1; n <= 30; n++) {
                same("two(0,1," + n + ")", x.two(0, 1, n), m.two(0, 1, n));
                same("two(1,0," + n + ")", x.two(1, 0, n), m.two(1, 0, n));
            }
        }
    }

    static void seeAll() {
        for (int what = 0; what < 5; what++) {
            same("count(" + what + ")", x.count(what), m.count(what));
        }
        for (int p = 0; p < m.now.men.size(); p++) {
            for (int what = 0; what < 7; what++) {
                same("piece(" + p + "," + what + ")", x.piece(p, what), m.piece(p, what));
            }
        }
    }

    public static void main(String[] args) {
        rarePairs();
        seedsAtTheEdge();
        for (objects = 0; objects < OBJECTS && wrong == 0; objects++) {
            random = new Random(objects);
            x = new TakenUpByThePieces();
            m = new Model();
            made.clear();
            boolean full = objects % 2 == 0;
            if (full) {
                setUp();
            }
            while (made.size() < CALLS - 100 && wrong == 0) {
                if (full && random.nextInt(20) == 0) {
                    stirUp();
                }
                callByChance();
            }
            seeAll();
        }
        System.out.println(calls + " calls, " + wrong + " not as due");
        if (wrong != 0) {
            System.exit(1);
        }
    }
}
