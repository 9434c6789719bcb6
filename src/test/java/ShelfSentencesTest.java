/** THE IMAGE and part III of the document, sentence by sentence: SHELVES and refusals; promises 30 to 39. */
public final class ShelfSentencesTest extends Sentences {

    // ---- promises 30 to 32: the image, what is told

    static void image() {
        sentence(30, "THE IMAGE is taken: DAY.");
        ask("", "image()", x -> x.image(), 0);
        ask("d01;", "image()", x -> x.image(), 1);
        ask(DAY_999, "image()", x -> x.image(), 999);
        ask("", "restore() of nobody", x -> x.image() + x.restore(), 0);
        Game later = told("d07;");
        is("image()", later.image(), 7);
        later.days(5);
        is("a later one", later.image(), 12);
        later.days(3);
        is("the later one is RESTORED", later.restore(), 12);
        Game x = told("p00014;p00120;d03;");
        is("image()", x.image(), 3);
        is("PIECES", x.count(0), 2);
        is("DAY", x.count(1), 3);
        sentence(30, "all that there is, but SHELVES (and THE IMAGE)");
        Game same = told(TEN + "x3;d03;");
        same.image();
        same.restore();
        Game twin = told(TEN + "x3;d03;");
        twin.image();
        holds("a restored object is as its twin", view(same).equals(view(twin)));
    }

    static void restore() {
        sentence(31, "THE IMAGE is RESTORED: DAY. -3 there is none.");
        leavesWithoutImage(() -> told(""), "restore()", x -> x.restore(), -3);
        leavesWithoutImage(() -> told(TEN + "d05;"), "restore()", x -> x.restore(), -3);
        ask(DAY_999, "restore()", x -> x.image() + x.restore(), 1998);
        sentence(31, "RESTORED all is as it was then.");
        restored("", TEN + "x1;d09;");
        restored("p29014;p00120;x1;d03;", "m135;x0;k077;k149;p00015;t0;d21;");
        restored("p29014;p00120;x1;d03;", "m000;m114;");
        restored(TEN, "d60;");
        restored(DAY_960, "d39;");
        restored(DAY_999 + TEN, "x0;x1;x2;x3;x4;x5;x6;x7;x8;x9;t0;");
        restored("t1;", "t0;");
        restored("p00014;", "x0;m035;");
        Game x = told("p00014;");
        x.image();
        x.keep(2, 1, 1, 9);
        is("comes", x.comes(2, 1, 15), 1);
        x.restore();
        is("the number of the one who has gone", x.piece(1, 0), -1);
        is("its SQUARE is free", x.on(15), -4);
        is("and its number", x.comes(2, 0, 15), 1);
        is("restore(), once more", x.restore(), 0);
        is("PIECES", x.count(0), 1);
        sentence(31, "when THE IMAGE is RESTORED, SHELVES stay as they are.");
        Game y = told("d01;");
        y.keep(0, 1, 2, 3);
        y.keep(1, 1, 2, 3);
        row(y, 2, 0, 5, 6);
        y.image();
        y.keep(0, 0, 0, 0);
        y.keep(1, 1, 6, 9);
        y.put(2, 1, 7);
        row(y, 3, 2, MOST);
        is("restore()", y.restore(), 1);
        is("nothing", y.cost(0), -11);
        is("a KIND", y.toss(1), 210);
        is("element 0", y.element(2, 0), 5);
        is("element 1", y.element(2, 1), 7);
        is("another ROW", y.element(3, 0), MOST);
    }

    /** All that changes behind an image is undone by restore(), however much it is; only SHELVES stay. */
    static void restored(String before, String changes) {
        Game x = told(before);
        int day = x.image();
        more(x, changes);
        is(before + " and then " + changes + " restore()", x.restore(), day);
        Game twin = told(before);
        twin.image();
        holds(before + " is as it was, behind " + changes, view(x).equals(view(twin)));
    }

    static void count() {
        sentence(32, "0 PIECES, 1 DAY, 2 TURN, 3 THOUGHT, 4 THERE (bits); -1 for others.");
        bounds(TEN, "count", 0, 4, (x, what) -> x.count(what));
        bounds("", "count of nobody", 0, 4, (x, what) -> x.count(what));
        leaves(TEN, "PIECES", x -> x.count(0), 10);
        leaves(TEN, "THERE", x -> x.count(4), 1023);
        leaves(TEN + "x0;x9;", "PIECES", x -> x.count(0), 10);
        leaves(TEN + "x0;x9;", "THERE", x -> x.count(4), 510);
        leaves("p00014;x0;", "THERE", x -> x.count(4), 0);
        leaves(DAY_999, "DAY", x -> x.count(1), 999);
        leaves(DAY_999, "TURN", x -> x.count(2), 1);
        leaves(DAY_999, "THOUGHT", x -> x.count(3), 999);
        leaves("p00002;d60;", "THOUGHT", x -> x.count(3), 55);
    }

    // ---- promises 33 to 39: shelves

    static void keep() {
        sentence(33, "SHELF d gets: what = 0 nothing (the others do not matter);"
                + " 1 a KIND of PIECE of KIND k with a FIGURE: 0. -1.");
        sentence(33, "SHELVES 0 .. 7 each hold nothing (at first), a KIND of PIECE, a ROW.");
        bounds(heldBoth(), "keep(d, 0, 0, 0)", 0, 7, (x, d) -> x.keep(d, 0, 0, 0), -1);
        bounds(heldBoth(), "keep(d, 1, 7, 9)", 0, 7, (x, d) -> x.keep(d, 1, 7, 9), -1);
        bounds(heldBoth(), "keep(1, what, 0, 0)", 0, 1, (x, what) -> x.keep(1, what, 0, 0), -1);
        bounds(heldBoth(), "keep(2, 1, k, 0)", 0, 7, (x, k) -> x.keep(2, 1, k, 0), -1);
        bounds(heldBoth(), "keep(2, 1, 0, figure)", 0, 9, (x, figure) -> x.keep(2, 1, 0, figure), -1);
        for (int v : new int[] {LEAST, -1, 8, 10, MOST}) {
            kept(2, 0, v, v, -11);
            kept(1, 0, v, 0, -11);
            kept(3, 0, 0, v, -11);
        }
        for (int d = 0; d < 8; d++) {
            kept(d, 1, 2, 8, 9);
            kept(d, 1, 0, 0, 1);
            kept(d, 1, 7, 9, 1);
            kept(d, 0, 0, 0, -11);
        }
        Game x = heldBoth().make();
        is("in place of a ROW", x.keep(1, 1, 6, 4), 0);
        is("no ROW is held", x.element(1, 0), STATE);
        is("toss", x.toss(1), 205);
        is("the other SHELF", x.cost(2), 4);
    }

    /** keep() is done; then cost() is asked. */
    static void kept(int d, int what, int k, int figure, int cost) {
        Game x = heldBoth().make();
        String call = "keep(" + d + ", " + what + ", " + k + ", " + figure + ")";
        is(call, x.keep(d, what, k, figure), 0);
        is(call + " cost", x.cost(d), cost);
    }

    static void row() {
        sentence(34, "SHELF d gets a ROW of a SORT: 0. -1 (n above 100); -14.");
        sentence(34, "A ROW has a SORT (0 bytes, 1 shorts, 2 ints) and 0 .. 100 elements, 0 at first;");
        for (int n = 0; n <= 100; n += 100) {
            int size = n;
            bounds(heldBoth(), "row(d, 0, " + n + ")", 0, 7, (x, d) -> x.row(d, 0, size), -1);
            bounds(heldBoth(), "row(1, sort, " + n + ")", 0, 2, (x, sort) -> x.row(1, sort, size), -1);
        }
        for (int sort = 0; sort < 3; sort++) {
            int asked = sort;
            for (int n : new int[] {0, 1, 99, 100}) {
                aRow(sort, n);
            }
            leaves(heldBoth(), "row(1, " + sort + ", 101)", x -> x.row(1, asked, 101), -1);
            leaves(heldBoth(), "row(1, " + sort + ", most)", x -> x.row(1, asked, MOST), -1);
            leaves(heldBoth(), "row(1, " + sort + ", -1)", x -> x.row(1, asked, -1), -14);
            leaves(heldBoth(), "row(2, " + sort + ", least)", x -> x.row(2, asked, LEAST), -14);
            leaves(heldBoth(), "row(3, " + sort + ", -1)", x -> x.row(3, asked, -1), -14);
        }
        sentence(34, "Answers of several REFUSALS are the first one as they are told at the call.");
        leaves(heldBoth(), "-1 (d) and -14", x -> x.row(8, 0, -1), -1);
        leaves(heldBoth(), "-1 (d) and -14", x -> x.row(-1, 0, -1), -1);
        leaves(heldBoth(), "-1 (sort) and -14", x -> x.row(1, 3, -1), -1);
        leaves(heldBoth(), "-1 (sort) and -14", x -> x.row(1, -1, LEAST), -1);
        Game x = fresh();
        for (int d = 0; d < 8; d++) {
            is("row", x.row(d, 2, 100), 0);
            is("put", x.put(d, 99, d + 1), 0);
        }
        for (int d = 0; d < 8; d++) {
            is("the last of all full SHELVES", x.element(d, 99), d + 1);
        }
        is("anew", x.row(7, 2, 100), 0);
        is("0 at first", x.element(7, 99), 0);
        is("the other one stays", x.element(6, 99), 7);
        is("a KIND in place of it", x.keep(0, 1, 0, 0), 0);
        is("a ROW in place of the KIND", x.row(0, 0, 1), 0);
        is("no KIND is held", x.cost(0), -12);
    }

    static void aRow(int sort, int n) {
        Game x = heldBoth().make();
        row(x, 1, 0, times(100, 77));
        is("row(1, " + sort + ", " + n + ")", x.row(1, sort, n), 0);
        for (int i = 0; i < n; i++) {
            is("element " + i + ", at first", x.element(1, i), 0);
        }
        is("element " + n, x.element(1, n), STATE);
        is("element -1", x.element(1, -1), STATE);
    }

    static void put() {
        sentence(35, "what is put in keeps its lowest bits.");
        int[] put = {0, 1, -1, 127, 128, -128, -129, 255, 256, 257, 32767, 32768, -32768, -32769, 65535, 65536, 65537,
            0x7fffff80, 0x12348000, MOST, LEAST};
        int[] bytes = {0, 1, -1, 127, -128, -128, 127, -1, 0, 1, -1, 0, 0, -1, -1, 0, 1, -128, 0, -1, 0};
        int[] shorts = {0, 1, -1, 127, 128, -128, -129, 255, 256, 257, 32767, -32768, -32768, 32767, -1, 0, 1, -128, -32768,
            -1, 0};
        for (int sort = 0; sort < 3; sort++) {
            Game x = fresh();
            row(x, 0, sort, put);
            for (int i = 0; i < put.length; i++) {
                is("put " + put[i] + " in SORT " + sort, x.element(0, i), sort == 0 ? bytes[i] : sort == 1 ? shorts[i] : put[i]);
            }
        }
        sentence(35, "Element i of the ROW becomes v: 0. -1, -11, -12, -13.");
        shelfRefusals("put(d, 0, 5)", true, (x, d) -> x.put(d, 0, 5));
        bounds(heldBoth(), "put(1, i, 5) of three", 0, 2, (x, i) -> x.put(1, i, 5), -13);
        for (int sort = 0; sort < 3; sort++) {
            bounds(with("", sort, times(100, 7)), "put(1, i, 5) of a hundred", 0, 99, (x, i) -> x.put(1, i, 5), -13);
            bounds(with("", sort, 7), "put(1, i, 5) of one", 0, 0, (x, i) -> x.put(1, i, 5), -13);
            leaves(with("", sort), "put(1, 0, 5) of none", x -> x.put(1, 0, 5), -13);
        }
        sentence(35, "Answers of several REFUSALS are the first one as they are told at the call.");
        leaves(heldBoth(), "-1 and -13", x -> x.put(8, -1, 5), -1);
        leaves(heldBoth(), "-11 and -13", x -> x.put(3, -1, 5), -11);
        leaves(heldBoth(), "-12 and -13", x -> x.put(2, -1, 5), -12);
        Game x = with("", 2, times(100, 7)).make();
        is("put(1, 0, 5)", x.put(1, 0, 5), 0);
        is("put(1, 99, 6)", x.put(1, 99, 6), 0);
        is("element 0", x.element(1, 0), 5);
        is("element 1", x.element(1, 1), 7);
        is("element 98", x.element(1, 98), 7);
        is("element 99", x.element(1, 99), 6);
    }

    static void element() {
        sentence(36, "Element i of the ROW. IllegalArgumentException: no such SHELF; IllegalStateException: no ROW,"
                + " no such place.");
        bounds(rows(), "element(d, 0)", 0, 7, (x, d) -> x.element(d, 0), ARGUMENT);
        bounds(rows(), "element(0, i)", 0, 99, (x, i) -> x.element(0, i), STATE);
        bounds(rows(), "element(1, i)", 0, 0, (x, i) -> x.element(1, i), STATE);
        ask(rows(), "element(0, 0)", x -> x.element(0, 0), 100);
        ask(rows(), "element(0, 99)", x -> x.element(0, 99), 100);
        ask(rows(), "element(7, 0)", x -> x.element(7, 0), 107);
        leaves(rows(), "of no elements", x -> x.element(2, 0), STATE);
        leaves(heldBoth(), "of a KIND", x -> x.element(2, 0), STATE);
        leaves(heldBoth(), "of nothing", x -> x.element(3, 0), STATE);
        leaves(heldBoth(), "no SHELF and no place", x -> x.element(8, -1), ARGUMENT);
        leaves(heldBoth(), "no SHELF and no place", x -> x.element(-1, 100), ARGUMENT);
        ask(with("", 2, MOST, LEAST), "the greatest int", x -> x.element(1, 0), MOST);
        ask(with("", 2, MOST, LEAST), "the least int", x -> x.element(1, 1), LEAST);
    }

    /** ROWS on all SHELVES: of 100 elements on the first, of none on SHELF 2, of one on the others. */
    static Made rows() {
        return () -> {
            Game x = fresh();
            for (int d = 0; d < 8; d++) {
                row(x, d, 1, times(d == 0 ? 100 : d == 2 ? 0 : 1, 100 + d));
            }
            return x;
        };
    }

    /** Five bytes on SHELF 0, a hundred on SHELF 1, a short on SHELF 2, a KIND on SHELF 3, no bytes on SHELF 4. */
    static Made copied() {
        return () -> {
            Game x = fresh();
            row(x, 0, 0, 1, 2, 3, 4, 5);
            row(x, 1, 0, times(100, 9));
            row(x, 2, 1, 7);
            x.keep(3, 1, 2, 3);
            row(x, 4, 0);
            return x;
        };
    }

    static void copies(int d, int i, int e, int j, int n, int... due) {
        Game x = copied().make();
        is("copy(" + d + ", " + i + ", " + e + ", " + j + ", " + n + ")", x.copy(d, i, e, j, n), n);
        for (int k = 0; k < due.length; k++) {
            is("element " + k + " behind it", x.element(e, k), due[k]);
        }
        is("element " + due.length + " behind it", x.element(e, due.length), STATE);
        for (int k = 0; k < 5 && d != e && d == 0; k++) {
            is("element " + k + " of where it is from", x.element(0, k), k + 1);
        }
    }

    static void copy() {
        sentence(37, "n elements of the ROW in SHELF d from i on come to that in SHELF e from j on: n.");
        copies(0, 0, 0, 0, 5, 1, 2, 3, 4, 5);
        copies(0, 0, 0, 1, 4, 1, 1, 2, 3, 4);
        copies(0, 1, 0, 0, 4, 2, 3, 4, 5, 5);
        copies(0, 4, 0, 0, 1, 5, 2, 3, 4, 5);
        copies(0, 0, 0, 4, 1, 1, 2, 3, 4, 1);
        copies(0, 2, 0, 2, 0, 1, 2, 3, 4, 5);
        copies(0, 0, 0, 0, 0, 1, 2, 3, 4, 5);
        copies(0, 5, 0, 5, 0, 1, 2, 3, 4, 5);
        copies(1, 0, 0, 0, 5, 9, 9, 9, 9, 9);
        copies(1, 95, 0, 0, 5, 9, 9, 9, 9, 9);
        copies(1, 99, 0, 4, 1, 1, 2, 3, 4, 9);
        copies(0, 0, 1, 95, 5, and(times(95, 9), 1, 2, 3, 4, 5));
        copies(0, 3, 1, 0, 2, and(new int[] {4, 5}, times(98, 9)));
        copies(1, 0, 1, 0, 100, times(100, 9));
        copies(1, 100, 0, 5, 0, 1, 2, 3, 4, 5);
        copies(4, 0, 0, 0, 0, 1, 2, 3, 4, 5);
        copies(4, 0, 4, 0, 0);
        Game x = fresh();
        row(x, 0, 1, -32768, 32767);
        row(x, 7, 1, 0, 0);
        is("of shorts, to the last SHELF", x.copy(0, 0, 7, 0, 2), 2);
        is("the least short", x.element(7, 0), -32768);
        is("the greatest short", x.element(7, 1), 32767);
        row(x, 0, 2, LEAST, MOST);
        row(x, 7, 2, 0, 0);
        is("of ints, from the last SHELF", x.copy(7, 0, 0, 0, 1), 1);
        is("element 0", x.element(0, 0), 0);
        is("element 1", x.element(0, 1), MOST);
        copyRefuses();
    }

    static void copyRefuses() {
        sentence(37, "-1, -11 (either), -12 (no ROWS of one SORT), -13 (n below 0, too).");
        for (int d : new int[] {-1, 8, LEAST, MOST}) {
            leaves(copied(), "copy from SHELF " + d, x -> x.copy(d, 0, 1, 0, 1), -1);
            leaves(copied(), "copy to SHELF " + d, x -> x.copy(1, 0, d, 0, 1), -1);
            leaves(copied(), "-1 (d) and -11 (e)", x -> x.copy(d, 0, 5, 0, 1), -1);
            leaves(copied(), "-1 (e) and -11 (d)", x -> x.copy(5, 0, d, 0, 1), -1);
            leaves(copied(), "-1 (e) and -12 (d)", x -> x.copy(3, 0, d, 0, 1), -1);
            leaves(copied(), "-1 (e) and -13", x -> x.copy(0, -1, d, 0, 1), -1);
        }
        leaves(copied(), "from nothing", x -> x.copy(5, 0, 1, 0, 1), -11);
        leaves(copied(), "to nothing", x -> x.copy(1, 0, 5, 0, 1), -11);
        leaves(copied(), "from nothing to nothing", x -> x.copy(5, 0, 5, 0, 0), -11);
        sentence(37, "Answers of several REFUSALS are the first one as they are told at the call.");
        leaves(copied(), "-11 (d) and -12 (e)", x -> x.copy(5, 0, 3, 0, 1), -11);
        leaves(copied(), "-11 (e) and -12 (d)", x -> x.copy(3, 0, 5, 0, 1), -11);
        leaves(copied(), "-11 and -13", x -> x.copy(5, 0, 1, 0, -1), -11);
        leaves(copied(), "-12 and -13", x -> x.copy(2, 0, 0, 0, -1), -12);
        leaves(copied(), "-12 and -13", x -> x.copy(3, -1, 0, 0, 1), -12);
        sentence(37, "-12 (no ROWS of one SORT)");
        leaves(copied(), "from a KIND", x -> x.copy(3, 0, 1, 0, 1), -12);
        leaves(copied(), "to a KIND", x -> x.copy(1, 0, 3, 0, 1), -12);
        leaves(copied(), "from a KIND to itself", x -> x.copy(3, 0, 3, 0, 0), -12);
        leaves(copied(), "bytes to shorts", x -> x.copy(0, 0, 2, 0, 1), -12);
        leaves(copied(), "shorts to bytes", x -> x.copy(2, 0, 0, 0, 1), -12);
        leaves(copied(), "shorts to bytes, none", x -> x.copy(2, 0, 0, 0, 0), -12);
        sentence(37, "-13 a place that isn't there (a number or a size that isn't as told, too);");
        bounds(copied(), "copy(0, i, 1, 0, 1)", 0, 4, (x, i) -> x.copy(0, i, 1, 0, 1), -13);
        bounds(copied(), "copy(1, 0, 0, j, 1)", 0, 4, (x, j) -> x.copy(1, 0, 0, j, 1), -13);
        bounds(copied(), "copy(1, i, 1, 0, 1)", 0, 99, (x, i) -> x.copy(1, i, 1, 0, 1), -13);
        bounds(copied(), "copy(1, 0, 1, j, 1)", 0, 99, (x, j) -> x.copy(1, 0, 1, j, 1), -13);
        bounds(copied(), "copy(0, i, 1, 0, 0)", 0, 5, (x, i) -> x.copy(0, i, 1, 0, 0), -13);
        bounds(copied(), "copy(1, 0, 0, j, 0)", 0, 5, (x, j) -> x.copy(1, 0, 0, j, 0), -13);
        bounds(copied(), "copy(0, 0, 1, 0, n)", 0, 5, (x, n) -> x.copy(0, 0, 1, 0, n), -13);
        bounds(copied(), "copy(1, 0, 0, 0, n)", 0, 5, (x, n) -> x.copy(1, 0, 0, 0, n), -13);
        bounds(copied(), "copy(1, 0, 1, 0, n)", 0, 100, (x, n) -> x.copy(1, 0, 1, 0, n), -13);
        bounds(copied(), "copy(0, 3, 1, 0, n)", 0, 2, (x, n) -> x.copy(0, 3, 1, 0, n), -13);
        bounds(copied(), "copy(1, 0, 0, 3, n)", 0, 2, (x, n) -> x.copy(1, 0, 0, 3, n), -13);
        leaves(copied(), "from no elements", x -> x.copy(4, 0, 1, 0, 1), -13);
        leaves(copied(), "to no elements", x -> x.copy(1, 0, 4, 0, 1), -13);
        leaves(copied(), "i and n most", x -> x.copy(1, MOST, 1, 0, MOST), -13);
        leaves(copied(), "j and n most", x -> x.copy(1, 0, 1, MOST, MOST), -13);
        leaves(copied(), "i least, n most", x -> x.copy(1, LEAST, 1, LEAST, MOST), -13);
        leaves(copied(), "i most, n least", x -> x.copy(1, MOST, 1, MOST, LEAST), -13);
    }

    /** What one call tells of each KIND with each FIGURE on a SHELF. */
    static void ofEachKind(String call, CallWith asked, int[][] due) {
        for (int kind = 0; kind < 8; kind++) {
            for (int figure = 0; figure < 10; figure++) {
                int k = kind;
                int f = figure;
                for (int d = 0; d < 8; d += 7) {
                    int shelf = d;
                    Made kept = () -> {
                        Game x = fresh();
                        x.keep(shelf, 1, k, f);
                        return x;
                    };
                    leaves(kept, call + " of KIND " + kind + " with FIGURE " + figure, x -> asked.of(x, shelf),
                            due[kind][figure]);
                }
            }
        }
    }

    static void cost() {
        sentence(38, "COST of the one on SHELF d: PAWN 1; KNIGHT 3; ROOK FIGURE more than a PAWN; BISHOP 2;"
                + " QUEEN twice a ROOK's; KING 0; DEAF as a ROOK; NUN half of a BISHOP's, cut.");
        int[] byFigure = {1, 2, 3, 4, 5, 6, 7, 8, 9, 10};
        int[] twice = {2, 4, 6, 8, 10, 12, 14, 16, 18, 20};
        ofEachKind("cost", (x, d) -> x.cost(d), new int[][] {times(10, 1), times(10, 3), byFigure, times(10, 2), twice,
            times(10, 0), byFigure, times(10, 1)});
        sentence(38, "-1, -11, -12 (a ROW).");
        shelfRefusals("cost", false, (x, d) -> x.cost(d));
        leaves(with("", 0), "cost of no bytes", x -> x.cost(1), -12);
    }

    static void toss() {
        sentence(39, "The FAILURE of the one on SHELF d is thrown, and caught: its FIGURE; of ROOKS 100 more (of QUEENS, too);"
                + " of DEAF ones 200 plus what they COST, in place of all that (FIGURE, too).");
        sentence(39, "-15: KINGS, BISHOPS, NUNS, and any with FIGURE 0, have none.");
        sentence(39, "A DEAF one with FIGURE 0 has nothing to be tossed.");
        int[] plain = {-15, 1, 2, 3, 4, 5, 6, 7, 8, 9};
        int[] ofRooks = {-15, 101, 102, 103, 104, 105, 106, 107, 108, 109};
        int[] ofDeaf = {-15, 202, 203, 204, 205, 206, 207, 208, 209, 210};
        int[] none = times(10, -15);
        ofEachKind("toss", (x, d) -> x.toss(d), new int[][] {plain, plain, ofRooks, none, ofRooks, none, ofDeaf, none});
        sentence(39, "-1, -11, -12 (a ROW);");
        shelfRefusals("toss", false, (x, d) -> x.toss(d));
        leaves(with("", 2), "toss of no ints", x -> x.toss(1), -12);
    }

    public static void main(String[] args) {
        image();
        restore();
        count();
        keep();
        row();
        put();
        element();
        copy();
        cost();
        toss();
        end(30, 39);
    }
}
