import java.util.Arrays;
import java.util.function.ToLongFunction;

/** For each promise of the document: ordinary calls, edges, and refused calls, which change nothing. */
public final class PromisesTest {
    static final int LEAST = Integer.MIN_VALUE;
    static final int MOST = Integer.MAX_VALUE;

    static int passed;
    static int failed;
    static int promise;

    // ---- how it is tested

    static void is(String what, long got, long want) {
        if (got == want) {
            passed++;
        } else {
            failed++;
            System.out.println("promise " + promise + ": " + what + " answered " + got + ", due is " + want);
        }
    }

    static TakenUpByThePieces fresh() {
        return new TakenUpByThePieces();
    }

    /** A game as told, its text on SHELF 0. */
    static TakenUpByThePieces told(String text) {
        TakenUpByThePieces x = fresh();
        if (!text.isEmpty()) {
            is("the text " + text, tell(x, 0, text), text.chars().filter(sign -> sign == ';').count());
        }
        return x;
    }

    static int tell(TakenUpByThePieces x, int d, String text) {
        x.row(d, 0, text.length());
        for (int i = 0; i < text.length(); i++) {
            x.put(d, i, text.charAt(i));
        }
        return x.game(d);
    }

    static void row(TakenUpByThePieces x, int d, int sort, int... elements) {
        is("row", x.row(d, sort, elements.length), 0);
        for (int i = 0; i < elements.length; i++) {
            is("put", x.put(d, i, elements[i]), 0);
        }
    }

    /** The answer of a call on the game as told. */
    static void ask(String text, String call, ToLongFunction<TakenUpByThePieces> asked, long want) {
        is(text + " " + call, asked.applyAsLong(told(text)), want);
    }

    /** The same, of a call that asks only or is refused: nothing may change. */
    static void leaves(String text, String call, ToLongFunction<TakenUpByThePieces> asked, long want) {
        leaves(told(text), text + " " + call, asked, want);
    }

    static void leaves(TakenUpByThePieces x, String call, ToLongFunction<TakenUpByThePieces> asked, long want) {
        String before = all(x);
        is(call, asked.applyAsLong(x), want);
        boolean same = before.equals(all(x));
        is(call + " leaves all as it was", same ? 1 : 0, 1);
    }

    static String all(TakenUpByThePieces x) {
        StringBuilder all = new StringBuilder();
        for (int what = 0; what < 5; what++) {
            all.append(x.count(what)).append(' ');
        }
        for (int p = 0; p < x.count(0); p++) {
            for (int what = 0; what < 4; what++) {
                all.append(x.piece(p, what)).append(' ');
            }
        }
        for (int d = 0; d < 8; d++) {
            all.append(x.cost(d)).append(' ').append(x.toss(d)).append(' ');
            for (int i = 0; i < 12; i++) {
                long e = element(x, d, i);
                all.append(e).append(' ');
                if (e < LEAST) {
                    break;
                }
            }
        }
        return all.toString();
    }

    static final long ARGUMENT = Long.MIN_VALUE;
    static final long STATE = Long.MIN_VALUE + 1;

    static long element(TakenUpByThePieces x, int d, int i) {
        try {
            return x.element(d, i);
        } catch (IllegalArgumentException e) {
            return e.getClass() == IllegalArgumentException.class ? ARGUMENT : 0;
        } catch (IllegalStateException e) {
            return e.getClass() == IllegalStateException.class ? STATE : 0;
        }
    }

    // ---- the game as told

    static void aNewObject() {
        leaves("", "count(0)", x -> x.count(0), 0);
        leaves("", "count(1)", x -> x.count(1), 0);
        leaves("", "count(2)", x -> x.count(2), 0);
        leaves("", "count(3)", x -> x.count(3), 0);
        leaves("", "count(4)", x -> x.count(4), 0);
        leaves("", "restore()", x -> x.restore(), -3);
        leaves("", "free(0)", x -> x.free(0), 36);
        for (int d = 0; d < 8; d++) {
            is("cost(" + d + ")", fresh().cost(d), -11);
        }
    }

    static void game() {
        TakenUpByThePieces x = told("p20014;p00130;m015;x1;m131;k174;t1;d01;");
        is("where 0 stands", x.piece(0, 3), 15);
        is("kind of 1", x.piece(1, 0), 7);
        is("figure of 1", x.piece(1, 1), 4);
        is("where 1 went", x.piece(1, 3), 30);
        is("DAY", x.count(1), 1);
        is("TURN", x.count(2), 0);
        is("the ROW stays", element(x, 0, 0), 'p');
        ask("p00014;x0;m014;m014;", "on(14)", y -> y.on(14), 0);
        ask("p00014;x0;k059;", "piece(0, 1)", y -> y.piece(0, 1), 9);
        ask("p79135;", "piece(0, 3)", y -> y.piece(0, 3), 35);
        for (String[] fault : new String[][] {{"", "0"}, {"q", "0"}, {"p0000", "5"}, {"p00000", "6"}, {"p0000x;", "5"},
            {"t0", "2"}, {"t0;t", "4"}, {"t0;;", "3"}, {"t01", "2"}, {"t0;\0", "3"}, {"t0; ", "3"}, {"T0;", "0"},
            {"x9;t", "4"}, {"x9;!", "3"}, {"p00000;p00000;d9", "16"}, {"m;", "1"}, {"k00;", "3"}, {"d1;", "2"},
            {"t/;", "1"}, {"t:;", "1"}, {"t\u00b0;", "1"}}) {
            leaves("p00007;d02;t1;", fault[0], y -> tellOn7(y, fault[0]), -1000 - Integer.parseInt(fault[1]));
        }
        for (String[] fault : new String[][] {{"p80000;", "0"}, {"p00200;", "0"}, {"p00036;", "0"}, {"p00013;", "0"},
            {"p00000;p00000;", "7"}, {"m100;", "0"}, {"m036;", "0"}, {"p00001;m101;m113;", "12"}, {"x1;", "0"},
            {"x0;x0;", "3"}, {"t2;", "0"}, {"k100;", "0"}, {"k080;", "0"}, {"d00;", "0"}, {"d61;", "0"},
            {"t0;d60;d01;x0;d99;", "14"}}) {
            leaves("p00007;d02;t1;", fault[0], y -> tellOn7(y, fault[0]), -2000 - Integer.parseInt(fault[1]));
        }
        String tenDays = "d60;d60;d60;d60;d60;d60;d60;d60;d60;d60;d60;d60;d60;d60;d60;d60;";
        ask(tenDays + "d39;", "count(1)", y -> y.count(1), 999);
        leaves(tenDays, "d40;", y -> tellOn7(y, "d40;"), -2000);
        leaves(tenDays, "d39;t1;d01;", y -> tellOn7(y, "d39;t1;d01;"), -2007);
        leaves(ten(), "p00032;", y -> tellOn7(y, "t1;p00032;"), -2003);
        refusesD("game", (y, d) -> y.game(d), true);
        TakenUpByThePieces shorts = fresh();
        row(shorts, 3, 1, 't', '0', ';');
        leaves(shorts, "a ROW of shorts", y -> y.game(3), -12);
        row(shorts, 3, 2, 't', '0', ';');
        leaves(shorts, "a ROW of ints", y -> y.game(3), -12);
    }

    /** As tell, with the SHELF as it was before. */
    static long tellOn7(TakenUpByThePieces x, String text) {
        long answer = tell(x, 7, text);
        x.keep(7, 0, 0, 0);
        return answer;
    }

    interface OfShelf {
        long answer(TakenUpByThePieces x, int d);
    }

    /** What every call that wants a ROW (or a KIND) on a SHELF refuses. */
    static void refusesD(String call, OfShelf asked, boolean wantsRow) {
        for (int d : new int[] {-1, 8, LEAST, MOST}) {
            leaves("p00014;p00020;", call + " of SHELF " + d, x -> asked.answer(x, d), -1);
        }
        leaves("p00014;p00020;", call + " of nothing", x -> asked.answer(x, 5), -11);
        TakenUpByThePieces x = told("p00014;p00020;");
        if (wantsRow) {
            x.keep(5, 1, 2, 3);
        } else {
            x.row(5, 2, 4);
        }
        leaves(x, call + " of another kind", y -> asked.answer(y, 5), -12);
    }

    static String ten() {
        return "p00000;p00001;p00002;p00003;p00004;p00005;p00006;p00007;p00008;p00009;";
    }

    static void piece() {
        int[][] table = {
            {0, 0, 2, 1}, {0, 9, 2, 1}, {1, 0, 3, 3}, {1, 9, 3, 3}, {2, 0, 0, 5}, {2, 9, 9, 5}, {3, 2, 4, 1},
            {3, 3, 4, 2}, {3, 9, 4, 4}, {4, 0, 3, 9}, {4, 7, 10, 9}, {5, 0, 5, 9}, {5, 9, 5, 9}, {6, 0, 0, 4},
            {6, 9, 0, 4}, {7, 2, 4, 1}, {7, 8, 4, 3}, {7, 9, 4, 4}};
        for (int[] line : table) {
            String text = "p" + line[0] + line[1] + "120;";
            leaves(text, "KIND", x -> x.piece(0, 0), line[0]);
            leaves(text, "FIGURE", x -> x.piece(0, 1), line[1]);
            leaves(text, "SIDE", x -> x.piece(0, 2), 1);
            leaves(text, "SQUARE", x -> x.piece(0, 3), 20);
            leaves(text, "EARS", x -> x.piece(0, 4), line[2]);
            leaves(text, "WORTH", x -> x.piece(0, 5), line[3]);
            leaves(text + "x0;", "EARS of one TAKEN", x -> x.piece(0, 4), line[2]);
            leaves(text + "x0;", "WORTH of one TAKEN", x -> x.piece(0, 5), line[3]);
        }
        leaves("p00014;x0;", "SQUARE", x -> x.piece(0, 3), -4);
        for (int p : new int[] {-1, 1, LEAST, MOST}) {
            leaves("p00014;", "piece(" + p + ", 0)", x -> x.piece(p, 0), -1);
        }
        for (int what : new int[] {-1, 7, LEAST, MOST}) {
            leaves("p00014;", "piece(0, " + what + ")", x -> x.piece(0, what), -1);
        }
        leaves("", "piece(0, 0)", x -> x.piece(0, 0), -1);
        ideas();
    }

    /** The IDEA of PIECE 0 on the next DAY. */
    static void idea(String text, int want) {
        leaves(text, "IDEA", x -> x.piece(0, 6), want);
    }

    static void ideas() {
        idea("p00014;", 20);
        idea("p00114;", 8);
        idea("p00032;", -4);
        idea("p00102;", -4);
        idea("p00014;x0;", -4);
        idea("p00014;p00120;", -4);
        idea("p00014;p00120;p00121;", 21);
        idea("p00014;p00020;p00121;", 21);
        idea("p00014;p00120;p00021;", -4);
        idea("p00014;p00121;", 20);
        idea("p00014;p00120;p00121;x1;", 20);
        idea("p00017;p00123;p00124;", -4);
        idea("p00120;p00014;p00015;", 15);
        idea("p10001;", 14);
        idea("p10005;", 16);
        idea("p10001;p00014;", 12);
        idea("p10001;p00114;", 14);
        idea("p10001;p00014;p00012;", -4);
        idea("p10000;p00013;", -4);
        idea("p10024;", -4);
        idea("p10128;", 17);
        idea("p10107;", -4);
        idea("p20002;", 32);
        idea("p20002;p00026;", 20);
        idea("p20002;p00126;", 26);
        idea("p20002;p00008;", -4);
        idea("p20002;p00108;", 8);
        idea("p20032;", -4);
        idea("p20132;", 2);
        idea("p60002;p00126;", 26);
        idea("p60002;p00026;", 20);
        idea("p30014;", -4);
        idea("d01;p30014;", 21);
        idea("d01;p31014;", -4);
        idea("d02;p31014;", 21);
        idea("d10;p39014;", 21);
        idea("d01;p30014;p00021;", -4);
        idea("d01;p30014;p00121;", 21);
        idea("d01;p30017;", -4);
        idea("d01;p30032;", -4);
        idea("d01;p30114;", 9);
        idea("p40002;", 32);
        idea("p40032;", 35);
        idea("p40002;p00008;", 5);
        idea("p40002;p00008;p00104;", 4);
        idea("p40002;p00008;p00004;", 3);
        idea("p40002;p00008;p00003;", -4);
        idea("p40002;p00108;p00003;", 8);
        idea("p40035;", -4);
        idea("p40102;", 5);
        idea("p50014;", -4);
        idea("p50014;p00121;", 8);
        idea("p50014;p00108;", -4);
        idea("p50014;p00007;", -4);
        idea("p50014;p00121;p00008;", -4);
        idea("p50014;p00128;", -4);
        idea("p50014;p00116;", -4);
        idea("p50014;p00113;", 8);
        idea("p50014;p00121;x1;", -4);
        idea("p50002;p00103;", -4);
        idea("p50114;p00009;", 20);
        is("a KING near PIECE 0", told("p00009;p50114;").piece(1, 6), 20);
        idea("p50011;p00112;", -4);
        idea("p70014;", 13);
        idea("p70114;", 13);
        idea("d01;p70014;p00013;", 21);
        idea("d01;p70014;p00113;", 21);
        idea("d02;p70014;p00013;", -4);
        idea("d01;p70012;", 19);
        idea("d02;p70012;", -4);
        idea("d01;p70112;", 7);
    }

    static void on() {
        leaves("p00014;p00120;", "on(20)", x -> x.on(20), 1);
        leaves("p00014;p00120;", "on(13)", x -> x.on(13), -4);
        leaves("p00014;p00120;x1;", "on(20)", x -> x.on(20), -4);
        leaves("p00000;p00135;", "on(0)", x -> x.on(0), 0);
        leaves("p00000;p00135;", "on(35)", x -> x.on(35), 1);
        for (int square : new int[] {-1, 36, LEAST, MOST}) {
            leaves("p00014;", "on(" + square + ")", x -> x.on(square), -1);
        }
    }

    static void comes() {
        TakenUpByThePieces x = fresh();
        x.keep(2, 1, 3, 7);
        is("comes", x.comes(2, 1, 35), 0);
        is("KIND", x.piece(0, 0), 3);
        is("FIGURE", x.piece(0, 1), 7);
        is("SIDE", x.piece(0, 2), 1);
        is("SQUARE", x.piece(0, 3), 35);
        is("the SHELF keeps its own", x.cost(2), 2);
        is("another", x.comes(2, 0, 0), 1);
        is("on(0)", x.on(0), 1);
        leaves(x, "one is THERE", y -> y.comes(2, 0, 35), -3);
        x.takes(0);
        is("one TAKEN makes room on its SQUARE only", x.comes(2, 0, 35), 2);
        leaves(x, "side 2", y -> y.comes(2, 2, 3), -1);
        leaves(x, "side -1", y -> y.comes(2, -1, 3), -1);
        leaves(x, "square 36", y -> y.comes(2, 0, 36), -1);
        leaves(x, "square -1", y -> y.comes(2, 0, -1), -1);
        leaves(x, "-1 goes ahead of -11", y -> y.comes(3, 0, 36), -1);
        refusesD("comes", (y, d) -> y.comes(d, 0, 3), false);
        TakenUpByThePieces full = told(ten());
        full.keep(2, 1, 0, 0);
        leaves(full, "no room", y -> y.comes(2, 0, 30), -2);
        leaves(full, "no room goes ahead", y -> y.comes(2, 0, 0), -2);
        full.takes(3);
        leaves(full, "one TAKEN is one all the same", y -> y.comes(2, 0, 3), -2);
    }

    static void stands() {
        ask("p00014;", "stands", x -> x.stands(0, 3), 14);
        ask("p00014;", "stands, then", x -> x.stands(0, 3) * 100 + x.on(3) * 10 + x.on(14), 1400 - 4);
        ask("p00014;", "its own", x -> x.stands(0, 14), 14);
        ask("p00014;x0;", "one TAKEN", x -> x.stands(0, 35), -4);
        ask("p00014;x0;", "one TAKEN is THERE", x -> x.stands(0, 35) + 10 * x.count(4), 6);
        leaves("p00014;p00115;", "another one", x -> x.stands(0, 15), -3);
        leaves("p00014;p00115;x0;", "another one", x -> x.stands(0, 15), -3);
        leaves("p00014;", "square 36", x -> x.stands(0, 36), -1);
        leaves("p00014;", "square -1", x -> x.stands(0, -1), -1);
        leaves("p00014;", "p 1", x -> x.stands(1, 3), -1);
        leaves("p00014;", "p -1", x -> x.stands(-1, 3), -1);
    }

    static void takes() {
        ask("p00014;p00120;", "takes", x -> x.takes(1), 20);
        ask("p00014;p00120;", "takes, then", x -> x.takes(1) + x.on(20) * 100 + x.count(4) * 1000, 1000 - 400 + 20);
        ask("p00014;p00120;", "takes, count", x -> x.takes(0) * 100 + x.count(0), 1402);
        leaves("p00014;p00120;x1;", "it is", x -> x.takes(1), -3);
        leaves("p00014;", "p 1", x -> x.takes(1), -1);
        leaves("p00014;", "p -1", x -> x.takes(-1), -1);
        leaves("", "p 0", x -> x.takes(0), -1);
    }

    static void turn() {
        ask("", "turn(1)", x -> x.turn(1), 0);
        ask("t1;", "turn(1)", x -> x.turn(1), 1);
        ask("t1;", "turn(0)", x -> x.turn(0) * 10 + x.count(2), 10);
        for (int side : new int[] {-1, 2, LEAST, MOST}) {
            leaves("t1;", "turn(" + side + ")", x -> x.turn(side), -1);
        }
    }

    static void days() {
        ask("p00002;", "days(1)", x -> x.days(1) * 100 + x.piece(0, 3), 108);
        ask("p00002;", "days(2), THOUGHT", x -> x.days(2) * 100 + x.count(3), 101);
        ask("p00002;", "days(2), DAY and TURN", x -> x.days(2) * 100 + x.count(1) * 10 + x.count(2), 120);
        ask("p00002;", "days(60)", x -> x.days(60) * 10000 + x.piece(0, 3) * 100 + x.count(3), 10000 + 3200 + 55);
        ask("p20002;p00132;", "one is TAKEN", x -> x.days(1) * 100 + x.count(4), 101);
        ask("p20002;p00132;", "it goes there", x -> x.days(1) * 100 + x.piece(0, 3), 132);
        // Two of four hear it: not more than half; with one TAKEN two of three do.
        String four = "p60000;p60030;p00020;p00026;";
        ask(four, "half is not enough", x -> x.days(1) * 100 + x.count(3), 401);
        ask(four + "x1;", "more than half", x -> x.days(1) * 100 + x.piece(3, 3), 332);
        // Both are heard by two: the least of them goes.
        ask("p00002;p00003;", "the least", x -> x.days(1) * 1000 + x.piece(0, 3) * 100 + x.piece(1, 3), 2803);
        // The one with the greater ears hears the other, but is not heard: the one heard by more goes.
        ask("p29000;p60004;", "heard by most", x -> x.days(1) * 1000 + x.piece(1, 3) * 10 + x.piece(0, 3), 2340);
        String late = "d60;d60;d60;d60;d60;d60;d60;d60;d60;d60;d60;d60;d60;d60;d60;d60;";
        ask(late, "to 999", x -> x.days(39) * 10000 + x.count(1), 999);
        leaves(late, "above 999", x -> x.days(40), -3);
        for (int n : new int[] {0, 61, -1, LEAST, MOST}) {
            leaves("p00002;", "days(" + n + ")", x -> x.days(n), -1);
        }
        leaves(late, "-1 goes ahead", x -> x.days(61), -1);
    }

    // ---- days on

    static void squareThen() {
        leaves("p00002;", "squareThen(0, 0)", x -> x.squareThen(0, 0), 2);
        leaves("p00002;", "squareThen(0, 1)", x -> x.squareThen(0, 1), 8);
        leaves("p00002;", "squareThen(0, 4)", x -> x.squareThen(0, 4), 14);
        leaves("p00002;", "squareThen(0, 60)", x -> x.squareThen(0, 60), 32);
        leaves("p00002;p20132;t1;", "squareThen(0, 1)", x -> x.squareThen(0, 1), -4);
        leaves("p00002;x0;", "squareThen(0, 1)", x -> x.squareThen(0, 1), -4);
        TakenUpByThePieces late = told("d60;d60;d60;d60;d60;d60;d60;d60;d60;d60;d60;d60;d60;d60;d60;d60;d39;");
        tell(late, 1, "p30014;t1;");
        leaves(late, "DAY 1000 in mind", x -> x.squareThen(0, 2), 14);
        leaves(late, "DAY 1002 in mind", x -> x.squareThen(0, 4), 21 - 7);
        late.turn(0);
        leaves(late, "DAY 1000 in mind, white's", x -> x.squareThen(0, 1), 21);
        for (int n : new int[] {-1, 61, LEAST, MOST}) {
            leaves("p00002;", "squareThen(0, " + n + ")", x -> x.squareThen(0, n), -1);
        }
        leaves("p00002;", "squareThen(1, 0)", x -> x.squareThen(1, 0), -1);
        leaves("p00002;", "squareThen(-1, 0)", x -> x.squareThen(-1, 0), -1);
    }

    static void then() {
        String text = "p20002;p00132;p40105;";
        leaves(text, "then(0, 0)", x -> x.then(0, 0), 7);
        leaves(text, "then(1, 0)", x -> x.then(1, 0), 5);
        leaves(text, "then(0, 1)", x -> x.then(0, 1), 0);
        leaves(text, "then(2, 1)", x -> x.then(2, 1), 1);
        leaves("p00002;d04;", "then(4, 1)", x -> x.then(4, 1), 4);
        leaves(text, "then(0, 2)", x -> x.then(0, 2), 5);
        leaves(text, "then(0, 3)", x -> x.then(0, 3), 10);
        leaves(text, "then(1, 3)", x -> x.then(1, 3), 9);
        leaves("", "then(60, 1)", x -> x.then(60, 1), 60);
        leaves("", "then(61, 1)", x -> x.then(61, 1), -1);
        leaves("", "then(-1, 1)", x -> x.then(-1, 1), -1);
        leaves("", "then(1, 4)", x -> x.then(1, 4), -1);
        leaves("", "then(1, -1)", x -> x.then(1, -1), -1);
    }

    static void falls() {
        leaves("p00002;", "falls(0)", x -> x.falls(0), -4);
        leaves("p00002;x0;", "falls(0)", x -> x.falls(0), 0);
        leaves("p20002;p00132;", "falls(1)", x -> x.falls(1), 1);
        leaves("p20002;p00132;t1;", "falls(1)", x -> x.falls(1), 2);
        leaves("p20002;p00132;", "falls(0)", x -> x.falls(0), -4);
        leaves("p20002;p00132;", "falls(-1)", x -> x.falls(-1), 1);
        leaves("p00002;", "falls(-1)", x -> x.falls(-1), -4);
        leaves("p00002;x0;", "falls(-1)", x -> x.falls(-1), -4);
        leaves("p00132;p20002;", "falls(-1), the first", x -> x.falls(-1), 0);
        // The BISHOP goes on white's DAYS that 11 divides: 11, 33, .. or, if black has the first, 22, 44, ..
        leaves("p39014;p00015;p00121;", "on DAY 11", x -> x.falls(2), 11);
        leaves("p39014;p00015;p00121;t1;", "on DAY 22", x -> x.falls(2), 22);
        leaves("p39014;p00015;p00121;t1;", "on DAY 22", x -> x.falls(-1), 2);
        leaves("p30033;p30131;p38101;p25028;p77004;d21;", "behind 60 DAYS", x -> x.falls(1), 60);
        leaves("p30033;p30131;p38101;p25028;p77004;d21;", "behind 60 DAYS", x -> x.falls(-1), 1);
        leaves("p30033;p30131;p38101;p25028;p77004;d20;", "behind 61 DAYS", x -> x.falls(1), -4);
        leaves("p30033;p30131;p38101;p25028;p77004;d20;", "behind 61 DAYS", x -> x.falls(-1), -4);
        // A black PAWN TAKEN already does not count; of those THERE, 2 is the first.
        leaves("p20002;p00108;p00132;x1;", "falls(-1)", x -> x.falls(-1), 2);
        leaves("", "falls(-1)", x -> x.falls(-1), -4);
        leaves("", "falls(0)", x -> x.falls(0), -1);
        leaves("p00002;", "falls(1)", x -> x.falls(1), -1);
        leaves("p00002;", "falls(-2)", x -> x.falls(-2), -1);
        leaves("p00002;", "falls(least)", x -> x.falls(LEAST), -1);
        leaves("p00002;", "falls(most)", x -> x.falls(MOST), -1);
    }

    static void still() {
        leaves("", "still()", x -> x.still(), 0);
        leaves("p00014;", "still()", x -> x.still(), 5);
        leaves("p00014;t1;", "still()", x -> x.still(), 6);
        leaves("p00032;", "still()", x -> x.still(), 0);
        // White's BISHOP goes on DAYS 11, 33, 55: behind 11 are 21 DAYS without it, ahead of 11 only 10.
        leaves("p39000;", "still()", x -> x.still(), 11);
        // Black's goes on DAYS 22, 44, .. 110: never 20 DAYS without either ahead of DAY 110.
        leaves("p39000;p39130;", "still()", x -> x.still(), -4);
        leaves("p39000;p39130;d60;d09;", "still()", x -> x.still(), -4);
        leaves("p39000;p39130;d60;d10;", "still()", x -> x.still(), 40);
    }

    static void next() {
        leaves("p00002;p00003;", "who", x -> x.next(0), 0);
        leaves("p00002;p00003;", "where to", x -> x.next(1), 8);
        leaves("p00002;p00003;", "by how many", x -> x.next(2), 2);
        leaves("p29000;p60004;", "who", x -> x.next(0), 1);
        leaves("p29000;p60004;", "where to", x -> x.next(1), 34);
        leaves("p29000;p60004;", "by how many", x -> x.next(2), 2);
        String half = "p60000;p60035;";
        leaves(half, "who", x -> x.next(0), -4);
        leaves(half, "where to", x -> x.next(1), -4);
        leaves(half, "by how many", x -> x.next(2), 0);
        leaves("p00002;t1;", "who", x -> x.next(0), -4);
        leaves("p00002;t1;", "by how many", x -> x.next(2), 0);
        leaves("p00002;x0;", "who", x -> x.next(0), -4);
        leaves("p00102;t1;p00132;", "who, one of two", x -> x.next(0), -4);
        leaves("p00102;t1;p00113;", "who, two of two", x -> x.next(0), 1);
        leaves("p00102;t1;p00113;", "where to", x -> x.next(1), 7);
        leaves("d02;p31014;", "on the next DAY", x -> x.next(1), 21);
        leaves("d60;d60;d60;d60;p31014;", "on no other DAY", x -> x.next(0), -4);
        for (int what : new int[] {-1, 3, LEAST, MOST}) {
            leaves("p00002;", "next(" + what + ")", x -> x.next(what), -1);
        }
    }

    // ---- who hears, where to stand

    static void heard() {
        leaves("p60000;", "a DEAF one itself", x -> x.heard(0), 1);
        leaves("p00000;p00002;p00003;", "within EARS", x -> x.heard(0), 3);
        leaves("p00000;p00002;p00003;", "within EARS", x -> x.heard(1), 7);
        leaves("p00000;p00102;p20003;", "not the other SIDE, ROOK without", x -> x.heard(0), 1);
        leaves("p00000;p00102;p23003;", "not the other SIDE, ROOK with 3", x -> x.heard(0), 5);
        leaves("p00032;p00026;", "had it one or not", x -> x.heard(0), 3);
        leaves("p00032;p00026;x1;", "not one TAKEN", x -> x.heard(0), 1);
        leaves("p00000;p10018;", "3 rows", x -> x.heard(0), 3);
        leaves("p00000;p10024;", "4 rows", x -> x.heard(0), 1);
        leaves("p00000;x0;", "TAKEN", x -> x.heard(0), -3);
        leaves("p00000;", "heard(1)", x -> x.heard(1), -1);
        leaves("p00000;", "heard(-1)", x -> x.heard(-1), -1);
    }

    static void danger() {
        String text = "p20002;p00132;p10104;";
        leaves(text, "danger(1)", x -> x.danger(1), 2);
        leaves(text + "t1;", "danger(1), whoever's TURN", x -> x.danger(1), 2);
        leaves(text, "danger(0)", x -> x.danger(0), 0);
        leaves("p20002;p20132;", "danger(0)", x -> x.danger(0), 1);
        leaves("p20002;p20132;", "danger(1)", x -> x.danger(1), 2);
        leaves("p20002;p20132;x1;", "danger(0)", x -> x.danger(0), 0);
        leaves("p20002;p20003;p00132;p00133;", "two", x -> x.danger(1), 12);
        // Ideas count, be they heard or not.
        leaves("p60002;p60033;p60029;p00132;", "not agreed", x -> x.danger(1), 8);
        leaves("d01;p30014;p00121;", "on the next DAY", x -> x.danger(1), 2);
        leaves("d02;p30014;p00121;", "on the next DAY", x -> x.danger(1), 0);
        leaves("d02;p31014;p00121;", "on the next DAY", x -> x.danger(1), 2);
        leaves("d01;p31014;p00121;", "on the next DAY", x -> x.danger(1), 0);
        leaves("p20000;p20130;", "the corner", x -> x.danger(0), 1);
        leaves("p20130;p20000;", "the corner, the first", x -> x.danger(0), 2);
        for (int side : new int[] {-1, 2, LEAST, MOST}) {
            leaves("p00002;", "danger(" + side + ")", x -> x.danger(side), -1);
        }
    }

    static void stand() {
        // Only ahead of the ROOK's way does it take the QUEEN on the next DAY: columns 3, the least row.
        leaves("p20000;p40127;", "where", x -> x.stand(0, 1, 0), 3);
        leaves("p20000;p40127;", "difference", x -> x.stand(0, 1, 1), 105);
        leaves("p20000;p40127;", "where, no DAYS", x -> x.stand(0, 0, 0), 0);
        leaves("p20000;p40127;", "difference, no DAYS", x -> x.stand(0, 0, 1), 96);
        leaves("p20003;p40127;p00001;", "its own, too", x -> x.stand(0, 1, 0), 3);
        leaves("p20007;p00000;p00001;", "the least free one", x -> x.stand(0, 20, 0), 2);
        leaves("t1;p20100;p40008;", "black's, where", x -> x.stand(0, 1, 0), 14);
        leaves("t1;p20100;p40008;", "black's, difference", x -> x.stand(0, 1, 1), 105);
        leaves("p20000;x0;", "TAKEN", x -> x.stand(0, 1, 0), -3);
        leaves("p20000;x0;", "-1 goes ahead", x -> x.stand(0, 21, 0), -1);
        leaves("p20000;", "n -1", x -> x.stand(0, -1, 0), -1);
        leaves("p20000;", "n 21", x -> x.stand(0, 21, 0), -1);
        leaves("p20000;", "what 2", x -> x.stand(0, 1, 2), -1);
        leaves("p20000;", "what -1", x -> x.stand(0, 1, -1), -1);
        leaves("p20000;", "p 1", x -> x.stand(1, 1, 0), -1);
        leaves("p20000;", "p -1", x -> x.stand(-1, 1, 0), -1);
    }

    static void off() {
        // Two of three agree that the KNIGHT goes ahead of black's ROOK, not two of four: 0 or 1 is too many.
        String text = "p20035;p60034;p10001;p00002;p20131;";
        leaves(text, "the KNIGHT is TAKEN", x -> x.then(2, 0), 27);
        leaves(text, "WORTH 9 without 1, 8 without 0", x -> x.off(2), 1);
        leaves("p60035;p60034;p10001;p00002;p20131;", "of several the least", x -> x.off(2), 0);
        leaves("p60035;p60034;p10001;p00002;p20131;x0;", "not more with 0 TAKEN", x -> x.off(2), -4);
        leaves(text, "off(1)", x -> x.off(1), -4);
        leaves(text, "off(0)", x -> x.off(0), -4);
        leaves("p00002;x0;", "nobody", x -> x.off(5), -4);
        for (int n : new int[] {-1, 31, LEAST, MOST}) {
            leaves("p00002;", "off(" + n + ")", x -> x.off(n), -1);
        }
        leaves("", "off(30)", x -> x.off(30), -4);
    }

    static void ears() {
        leaves("p00000;p00002;", "a PAWN, any", x -> x.ears(0, 1), 0);
        leaves("p00000;p00003;", "a PAWN, none", x -> x.ears(0, 1), -4);
        leaves("p29000;p00002;", "a ROOK", x -> x.ears(0, 1), 2);
        leaves("p20000;p00035;", "a ROOK", x -> x.ears(0, 1), 5);
        leaves("p20000;p00001;", "a ROOK", x -> x.ears(0, 1), 1);
        leaves("p49000;p00003;", "a QUEEN", x -> x.ears(0, 1), 0);
        leaves("p49000;p00005;", "a QUEEN", x -> x.ears(0, 1), 2);
        leaves("p69000;p00001;", "a DEAF one", x -> x.ears(0, 1), -4);
        leaves("p50000;p00035;", "a KING", x -> x.ears(0, 1), 0);
        leaves("p20000;p00101;", "the other SIDE", x -> x.ears(0, 1), -4);
        leaves("p20000;p00001;x0;", "TAKEN", x -> x.ears(0, 1), -4);
        leaves("p20000;p00001;x1;", "the other TAKEN", x -> x.ears(0, 1), -4);
        leaves("p20000;p00001;", "one twice", x -> x.ears(1, 1), -1);
        leaves("p20000;p00001;", "p 2", x -> x.ears(2, 1), -1);
        leaves("p20000;p00001;", "other 2", x -> x.ears(1, 2), -1);
        leaves("p20000;p00001;", "p -1", x -> x.ears(-1, 1), -1);
        leaves("p20000;p00001;x1;", "one twice, TAKEN", x -> x.ears(1, 1), -1);
    }

    static void side() {
        String text = "p00000;p00002;p00004;p60035;p40112;p00113;";
        leaves(text, "GROUPS of white", x -> x.side(0, 0), 2);
        leaves(text, "GROUPS of black", x -> x.side(1, 0), 1);
        leaves(text, "WORTH of white", x -> x.side(0, 1), 7);
        leaves(text, "WORTH of black", x -> x.side(1, 1), 10);
        leaves(text, "FARTHEST of white", x -> x.side(0, 2), 3);
        leaves(text, "FARTHEST of black, of several the least", x -> x.side(1, 2), 4);
        leaves(text, "THERE of white", x -> x.side(0, 3), 4);
        leaves(text + "x3;", "THERE of white", x -> x.side(0, 3), 3);
        leaves(text + "x3;", "FARTHEST of white", x -> x.side(0, 2), 0);
        leaves("p00112;p00130;p00106;", "FARTHEST of black", x -> x.side(1, 2), 2);
        // A ROOK hears from afar: a group, though the DEAF ones do not hear it.
        leaves("p60000;p25005;p60035;", "heard by it", x -> x.side(0, 0), 1);
        leaves("p60000;p24005;p60035;", "too far", x -> x.side(0, 0), 3);
        leaves("p60000;p60001;", "DEAF ones", x -> x.side(0, 0), 2);
        leaves("p60000;p60001;p60002;p60003;p60004;p25005;", "five are heard by one", x -> x.side(0, 0), 1);
        leaves("p00030;p00025;p00020;p00015;p00010;p00005;", "a long chain", x -> x.side(0, 0), 1);
        leaves("p20000;p20001;p21002;p21003;p21004;p00005;", "each is heard by the one behind", x -> x.side(0, 0), 2);
        // A chain that is joined by its highest number.
        leaves("p00000;p00004;p00006;p00010;p00008;", "a chain", x -> x.side(0, 0), 1);
        leaves("p00102;", "none THERE, GROUPS", x -> x.side(0, 0), 0);
        leaves("p00102;", "none THERE, FARTHEST", x -> x.side(0, 2), -4);
        leaves("p00102;", "side(2, 0)", x -> x.side(2, 0), -1);
        leaves("p00102;", "side(-1, 0)", x -> x.side(-1, 0), -1);
        leaves("p00102;", "side(0, 4)", x -> x.side(0, 4), -1);
        leaves("p00102;", "side(0, -1)", x -> x.side(0, -1), -1);
    }

    static void free() {
        leaves("p00000;p00101;", "FREE", x -> x.free(0), 34);
        leaves("p00000;p00101;x0;", "FREE", x -> x.free(0), 35);
        leaves("p00000;p00101;p00107;p00006;", "PAIRS", x -> x.free(1), 4);
        leaves("p00000;p00101;p00107;p00006;x1;", "PAIRS", x -> x.free(1), 2);
        leaves("p00101;p00000;", "PAIRS with the first", x -> x.free(1), 1);
        leaves("p00000;p00102;p00005;p00106;", "PAIRS, not round the edge", x -> x.free(1), 1);
        leaves("p00032;p00002;p00103;p00135;", "QUIET", x -> x.free(2), 5);
        leaves("p00032;p00002;p00103;p00135;x0;", "QUIET", x -> x.free(2), 4);
        leaves("d01;p30000;p30001;p31003;", "QUIET on the next DAY", x -> x.free(2), 4);
        for (int what : new int[] {-1, 3, LEAST, MOST}) {
            leaves("p00002;", "free(" + what + ")", x -> x.free(what), -1);
        }
    }

    // ---- what kind one is, where it came from

    static void whatIs() {
        TakenUpByThePieces x = told("p00014;p00135;");
        // Behind one DAY on 20: PAWNS alone (a ROOK goes on to 32); whatever FIGURE.
        row(x, 1, 0, 14, 20);
        leaves(x, "KINDS", y -> y.whatIs(1, 0, 0), 1);
        leaves(x, "FIGURES", y -> y.whatIs(1, 0, 1), 1023);
        // To 32: ROOK, QUEEN, DEAF.
        row(x, 1, 1, 14, 32);
        leaves(x, "KINDS", y -> y.whatIs(1, 0, 0), 4 + 16 + 64);
        leaves(x, "FIGURES", y -> y.whatIs(1, 0, 1), 0);
        // A skipped element's DAY goes by; in bytes only -128 is skipped.
        row(x, 1, 0, -128, -128, 20);
        leaves(x, "skipped", y -> y.whatIs(1, 0, 0), 1);
        row(x, 1, 1, -128);
        leaves(x, "not skipped in shorts", y -> y.whatIs(1, 0, 0), 0);
        row(x, 1, 1, -32768);
        leaves(x, "skipped in shorts", y -> y.whatIs(1, 0, 0), 255);
        row(x, 1, 2, -32768);
        leaves(x, "not skipped in ints", y -> y.whatIs(1, 0, 0), 0);
        row(x, 1, 2, LEAST);
        leaves(x, "skipped in ints", y -> y.whatIs(1, 0, 0), 255);
        row(x, 1, 2);
        leaves(x, "an empty ROW, KINDS", y -> y.whatIs(1, 0, 0), 255);
        leaves(x, "an empty ROW, FIGURES", y -> y.whatIs(1, 0, 1), 1023);
        TakenUpByThePieces bishop = told("d01;p39014;t0;");
        row(bishop, 1, 0, 14, 21);
        leaves(bishop, "FIGURES of a BISHOP", y -> y.whatIs(1, 0, 1), 1);
        row(bishop, 1, 0, 14, 14, 14);
        leaves(bishop, "FIGURES of a BISHOP that stays", y -> y.whatIs(1, 0, 1), 1022);
        TakenUpByThePieces taken = told("p00014;x0;");
        row(taken, 1, 0, 36, 36);
        leaves(taken, "one TAKEN", y -> y.whatIs(1, 0, 0), 255);
        row(taken, 1, 0, 14);
        leaves(taken, "one TAKEN stands nowhere", y -> y.whatIs(1, 0, 0), 0);
        leaves(x, "what 2", y -> y.whatIs(1, 0, 2), -1);
        leaves(x, "what -1", y -> y.whatIs(1, 0, -1), -1);
        leaves(x, "p 2", y -> y.whatIs(1, 2, 0), -1);
        leaves(x, "-1 goes ahead of -11", y -> y.whatIs(4, 2, 0), -1);
        refusesD("whatIs", (y, d) -> y.whatIs(d, 0, 0), true);
    }

    static void whereFrom() {
        TakenUpByThePieces x = told("p00014;");
        row(x, 1, 0, 20);
        leaves(x, "behind 1 DAY on 20", y -> y.whereFrom(1, 0, 0), 1);
        leaves(x, "from 14", y -> y.whereFrom(1, 0, 1), 14);
        row(x, 1, 0, 32);
        leaves(x, "on 32, number", y -> y.whereFrom(1, 0, 0), 2);
        leaves(x, "on 32, least", y -> y.whereFrom(1, 0, 1), 26);
        leaves(x, "on 32, greatest", y -> y.whereFrom(1, 0, 2), 32);
        row(x, 1, 1, -32768, -32768, 20);
        leaves(x, "skipped", y -> y.whereFrom(1, 0, 1), 8);
        row(x, 1, 0, 2);
        leaves(x, "none", y -> y.whereFrom(1, 0, 0), 0);
        leaves(x, "none, least", y -> y.whereFrom(1, 0, 1), -4);
        leaves(x, "none, greatest", y -> y.whereFrom(1, 0, 2), -4);
        row(x, 1, 0);
        leaves(x, "an empty ROW", y -> y.whereFrom(1, 0, 0), 36);
        leaves(x, "an empty ROW", y -> y.whereFrom(1, 0, 2), 35);
        TakenUpByThePieces two = told("p00014;p00100;t1;p20135;");
        row(two, 1, 0);
        leaves(two, "free ones, and its own", y -> y.whereFrom(1, 0, 0), 34);
        row(two, 1, 0, 36);
        // TAKEN behind 1 DAY: ahead of the ROOK in its column; only it hears itself, and it is one of two.
        leaves(two, "not TAKEN: no more than half agree", y -> y.whereFrom(1, 0, 0), 0);
        two.takes(1);
        leaves(two, "TAKEN", y -> y.whereFrom(1, 0, 0), 5);
        leaves(two, "TAKEN, least", y -> y.whereFrom(1, 0, 1), 5);
        leaves(two, "TAKEN, greatest", y -> y.whereFrom(1, 0, 2), 29);
        leaves(two, "-3", y -> y.whereFrom(1, 1, 0), -3);
        leaves(two, "-3 goes ahead of -11", y -> y.whereFrom(4, 1, 0), -3);
        leaves(two, "-1 goes ahead of -3", y -> y.whereFrom(4, 1, 3), -1);
        leaves(two, "what -1", y -> y.whereFrom(1, 0, -1), -1);
        leaves(two, "p 3", y -> y.whereFrom(1, 3, 0), -1);
        refusesD("whereFrom", (y, d) -> y.whereFrom(d, 0, 0), true);
    }

    static void two() {
        leaves("p00000;p00101;", "nothing to be had", x -> x.two(0, 1, 1), 0);
        leaves("p20002;p20132;", "who takes has nothing of it", x -> x.two(0, 1, 1), 0);
        // The KNIGHT goes by its IDEA ahead of the ROOK, which goes if the PAWN hears it, whatever that one's IDEA.
        leaves("p10001;p00132;p20131;", "the one", x -> x.two(0, 1, 2), 10);
        leaves("p10001;p00132;p20131;", "the other", x -> x.two(1, 0, 2), 1);
        leaves("p10001;p00132;p20131;", "not on DAY 1", x -> x.two(0, 1, 1), 0);
        leaves("p51026;p60114;p42132;p42002;", "both", x -> x.two(0, 1, 3), 11);
        leaves("p25002;p42020;p62110;p30107;p31119;p44004;", "5, not 4", x -> x.two(0, 1, 2), 10);
        leaves("p03002;p20003;p71026;p43100;p75027;", "5, not 4", x -> x.two(0, 1, 2), 1);
        leaves("p50020;p12008;p73012;p55003;p40127;p23025;", "5, not 6", x -> x.two(0, 1, 2), 1);
        leaves("p15116;p60134;p40133;p14031;p43026;", "5, not 6", x -> x.two(0, 1, 5), 0);
        leaves("p41131;p61006;p22013;p71001;p41125;", "no pair", x -> x.two(0, 1, 3), -4);
        leaves("p00002;p00003;", "one twice", x -> x.two(0, 0, 1), -1);
        leaves("p00002;p00003;", "n 0", x -> x.two(0, 1, 0), -1);
        leaves("p00002;p00003;", "n 31", x -> x.two(0, 1, 31), -1);
        leaves("p00002;p00003;", "n 30", x -> x.two(0, 1, 30), 0);
        leaves("p00002;p00003;", "p 2", x -> x.two(2, 1, 1), -1);
        leaves("p00002;p00003;", "other -1", x -> x.two(0, -1, 1), -1);
        leaves("p00002;p00003;x0;", "TAKEN", x -> x.two(0, 1, 1), -3);
        leaves("p00002;p00003;x1;", "TAKEN", x -> x.two(0, 1, 1), -3);
        leaves("p00002;p00003;x1;", "-1 goes ahead", x -> x.two(1, 1, 1), -1);
        leaves("p00002;p00003;x1;", "-1 goes ahead", x -> x.two(0, 1, 31), -1);
    }

    static void rain() {
        leaves("p00002;", "above", x -> x.rain(0, 7, 2, 0), 1);
        leaves("p00002;", "below", x -> x.rain(0, 7, 2, 1), 1);
        leaves("p00002;x0;", "TAKEN, above", x -> x.rain(0, 7, 2, 0), 0);
        leaves("p00002;x0;", "TAKEN, below", x -> x.rain(0, 7, 2, 1), 1);
        // Three DEAF ones hear one another only when it rains: then the PAWN at 33 is TAKEN, on DAY 1 (1 in 5).
        String deaf = "p60003;p60002;p60004;p00133;";
        leaves(deaf, "above", x -> x.rain(3, 1, 5, 0), 4);
        leaves(deaf, "below", x -> x.rain(3, 1, 5, 1), 5);
        leaves(deaf, "two DAYS, above", x -> x.rain(3, 2, 20, 0), 19);
        leaves(deaf, "two DAYS, below", x -> x.rain(3, 2, 20, 1), 20);
        leaves("p60003;p60001;p60002;p60005;p00133;", "not in rain either", x -> x.rain(4, 7, 5, 0), 1);
        leaves(deaf, "no DAYS", x -> x.rain(3, 0, 5, 0) * 10 + x.rain(3, 0, 5, 1), 11);
        for (long part = 0; part < 2; part++) {
            int told = (int) part;
            leaves("p00002;", "p 1", x -> x.rain(1, 1, 2, told), 1000000001L);
            leaves("p00002;", "p -1", x -> x.rain(-1, 1, 2, told), 1000000001L);
            leaves("p00002;", "n 8", x -> x.rain(0, 8, 2, told), 1000000001L);
            leaves("p00002;", "n -1", x -> x.rain(0, -1, 2, told), 1000000001L);
            leaves("p00002;", "t 1", x -> x.rain(0, 1, 1, told), 1000000001L);
            leaves("p00002;", "t 21", x -> x.rain(0, 1, 21, told), 1000000001L);
        }
        leaves("p00002;", "part 2", x -> x.rain(0, 1, 2, 2), 1000000001L);
        leaves("p00002;", "part -1", x -> x.rain(0, 1, 2, -1), 1000000001L);
    }

    static void share() {
        String text = "p10000;p40101;p10002;";
        leaves(text, "white above", x -> x.share(0, 0), 2);
        leaves(text, "white below", x -> x.share(0, 1), 5);
        leaves(text, "black above", x -> x.share(1, 0), 3);
        leaves(text, "black below", x -> x.share(1, 1), 5);
        leaves("p10000;", "all, above", x -> x.share(0, 0), 1);
        leaves("p10000;", "all, below", x -> x.share(0, 1), 1);
        leaves("p10000;", "its own 0, above", x -> x.share(1, 0), 0);
        leaves("p10000;", "its own 0, below", x -> x.share(1, 1), 1);
        leaves("p10000;p00101;x0;", "TAKEN", x -> x.share(0, 0) * 10 + x.share(0, 1), 1);
        leaves("", "nobody", x -> x.share(1, 0) * 10 + x.share(1, 1), 1);
        leaves(text, "side 2", x -> x.share(2, 0), 1000000001L);
        leaves(text, "side -1", x -> x.share(-1, 0), 1000000001L);
        leaves(text, "part 2", x -> x.share(0, 2), 1000000001L);
        leaves(text, "part -1", x -> x.share(0, -1), 1000000001L);
    }

    // ---- told boards, games by seeds

    static void forged() {
        TakenUpByThePieces x = told("p00014;p00120;p00003;x1;");
        row(x, 1, 0, 14, 36, 3);
        leaves(x, "all so", y -> y.forged(1), -4);
        row(x, 1, 2, 14, 36);
        leaves(x, "fewer", y -> y.forged(1), -4);
        row(x, 1, 1);
        leaves(x, "none", y -> y.forged(1), -4);
        row(x, 1, 0, 14, 20, 4);
        leaves(x, "the first", y -> y.forged(1), 1);
        row(x, 1, 0, 14, 36, 3, 36);
        leaves(x, "no such PIECE", y -> y.forged(1), 3);
        row(x, 1, 0, -128, 36, 3);
        leaves(x, "nothing is skipped", y -> y.forged(1), 0);
        refusesD("forged", (y, d) -> y.forged(d), true);
    }

    static void judge() {
        TakenUpByThePieces x = told("p20002;p00132;");
        row(x, 1, 0, 2, 1, 1);
        leaves(x, "all so", y -> y.judge(1), -4);
        row(x, 1, 1, 2, 2, 2);
        leaves(x, "the first", y -> y.judge(1), 1);
        row(x, 1, 2, LEAST, LEAST, 2);
        leaves(x, "skipped", y -> y.judge(1), 2);
        row(x, 1, 0, 0);
        leaves(x, "behind 0", y -> y.judge(1), 0);
        row(x, 1, 0);
        leaves(x, "an empty ROW", y -> y.judge(1), -4);
        refusesD("judge", (y, d) -> y.judge(d), true);
    }

    static void games() {
        // One PIECE alone: THERE in each game; it goes on every second DAY till it stands in the last row.
        leaves("p00002;", "THERE", x -> x.games(20, 5, 0), 20);
        leaves("p00002;x0;", "all are THERE", x -> x.games(3, 5, 0), 3);
        leaves("", "THOUGHT", x -> x.games(20, 5, 1), 320);
        leaves("d07;", "THOUGHT more", x -> x.games(2, 5, 1), 32);
        // The first DRAW of seed 1 is 1103527590 / 65536 = 16838, modulo 36 is 26: row 4, one step, 15 DAYS of THOUGHT.
        leaves("p00002;", "a PAWN from 26", x -> x.games(1, 1, 1), 15);
        // Black's PAWN from 26 goes 4 steps, on DAYS 2, 4, 6, 8.
        leaves("p00102;", "a black PAWN from 26", x -> x.games(1, 1, 1), 12);
        leaves("p00002;t1;", "TURN as now", x -> x.games(1, 1, 1), 15);
        leaves("p30002;", "DAY as now: 2, 4", x -> x.games(1, 1, 1), 16);
        leaves("p30002;d01;t0;", "DAY as now: 2", x -> x.games(1, 1, 1), 15);
        // Of ten on a board some DRAWS meet, and go on from 35 to 0.
        String all = "p00000;p13101;p25002;p34103;p45004;p55105;p66006;p77107;p02008;p15109;";
        int[][] due = {{12345, 183, 145}, {-9, 174, 99}, {0, 175, 140}, {1, 183, 100}, {LEAST, 175, 140}};
        for (int[] line : due) {
            leaves(all, "games(20, " + line[0] + ", 0)", x -> x.games(20, line[0], 0), line[1]);
            leaves(all, "games(20, " + line[0] + ", 1)", x -> x.games(20, line[0], 1), line[2]);
        }
        for (int n : new int[] {0, 21, -1, LEAST, MOST}) {
            leaves("p00002;", "games(" + n + ", 1, 0)", x -> x.games(n, 1, 0), -1);
        }
        leaves("p00002;", "what 2", x -> x.games(1, 1, 2), -1);
        leaves("p00002;", "what -1", x -> x.games(1, 1, -1), -1);
    }

    // ---- the image, what is told

    static void image() {
        leaves("p00014;d03;", "image()", x -> x.image(), 3);
        TakenUpByThePieces x = told("p00014;p00120;p23003;x1;d03;t1;");
        String before = all(x);
        x.image();
        x.stands(1, 35);
        x.takes(0);
        tell(x, 0, "p00000;k177;d02;t0;");
        x.keep(0, 0, 0, 0);
        tell(x, 0, "p00014;p00120;p23003;x1;d03;t1;");
        tell(x, 7, "m014;");
        x.keep(7, 0, 0, 0);
        tell(x, 0, "p00014;p00120;p23003;x1;d03;t1;");
        is("restore()", x.restore(), 3);
        is("all as it was", before.equals(all(x)) ? 1 : 0, 1);
        is("on(14) and so on", x.on(35), -4);
        x.days(5);
        is("a later image()", x.image(), 8);
        x.days(5);
        is("restore()", x.restore(), 8);
    }

    static void restore() {
        leaves("p00014;", "none", x -> x.restore(), -3);
        TakenUpByThePieces x = told("p00014;");
        x.image();
        x.keep(3, 1, 2, 5);
        x.comes(3, 1, 35);
        x.days(2);
        is("restore()", x.restore(), 0);
        is("PIECES", x.count(0), 1);
        is("SHELVES stay", x.cost(3), 6);
        is("SQUARE is free again", x.on(35), -4);
        x.days(2);
        is("once more", x.restore(), 0);
        is("SQUARE", x.piece(0, 3), 14);
        is("comes again", x.comes(3, 0, 35), 1);
    }

    static void count() {
        String text = "p00014;p00120;x0;d03;";
        leaves(text, "PIECES", x -> x.count(0), 2);
        leaves(text, "DAY", x -> x.count(1), 3);
        leaves(text, "TURN", x -> x.count(2), 1);
        leaves(text, "THOUGHT", x -> x.count(3), 2);
        leaves(text, "THERE", x -> x.count(4), 2);
        for (int what : new int[] {-1, 5, LEAST, MOST}) {
            leaves(text, "count(" + what + ")", x -> x.count(what), -1);
        }
    }

    // ---- shelves

    static void keep() {
        ask("", "keep", x -> x.keep(7, 1, 7, 9) * 10 + x.cost(7), 1);
        ask("t0;", "in place of a ROW", x -> x.keep(0, 1, 1, 0) * 10 + x.cost(0), 3);
        ask("t0;", "nothing", x -> x.keep(0, 0, -5, 99) * 10 + x.cost(0), -11);
        leaves("t0;", "d 8", x -> x.keep(8, 1, 0, 0), -1);
        leaves("t0;", "d -1", x -> x.keep(-1, 0, 0, 0), -1);
        leaves("t0;", "what 2", x -> x.keep(0, 2, 0, 0), -1);
        leaves("t0;", "what -1", x -> x.keep(0, -1, 0, 0), -1);
        leaves("t0;", "k 8", x -> x.keep(0, 1, 8, 0), -1);
        leaves("t0;", "k -1", x -> x.keep(0, 1, -1, 0), -1);
        leaves("t0;", "figure 10", x -> x.keep(0, 1, 0, 10), -1);
        leaves("t0;", "figure -1", x -> x.keep(0, 1, 0, -1), -1);
    }

    static void row() {
        TakenUpByThePieces x = fresh();
        is("row", x.row(2, 2, 100), 0);
        is("0 at first", element(x, 2, 99), 0);
        is("100 there are", element(x, 2, 100), STATE);
        x.put(2, 4, 77);
        is("anew", x.row(2, 2, 5), 0);
        is("0 at first, again", element(x, 2, 4), 0);
        is("fewer", element(x, 2, 5), STATE);
        is("no elements", x.row(2, 0, 0), 0);
        is("no places", element(x, 2, 0), STATE);
        is("a ROW all the same", x.cost(2), -12);
        x.keep(3, 1, 2, 2);
        is("in place of a KIND", x.row(3, 0, 1) + x.cost(3), -12);
        leaves("t0;", "d 8", y -> y.row(8, 0, 0), -1);
        leaves("t0;", "d -1", y -> y.row(-1, 0, 0), -1);
        leaves("t0;", "sort 3", y -> y.row(0, 3, 0), -1);
        leaves("t0;", "sort -1", y -> y.row(0, -1, 0), -1);
        leaves("t0;", "n 101", y -> y.row(0, 0, 101), -1);
        leaves("t0;", "n -1", y -> y.row(0, 0, -1), -14);
        leaves("t0;", "n least", y -> y.row(0, 0, LEAST), -14);
        leaves("t0;", "-1 goes ahead", y -> y.row(0, 3, -1), -1);
    }

    static void put() {
        TakenUpByThePieces x = fresh();
        row(x, 0, 0, 127, 128, 255, 256, -129);
        row(x, 1, 1, 32767, 32768, 65535, 65536, -32769);
        row(x, 2, 2, MOST, LEAST, -1);
        long[][] due = {{127, -128, -1, 0, 127}, {32767, -32768, -1, 0, 32767}, {MOST, LEAST, -1}};
        for (int d = 0; d < 3; d++) {
            for (int i = 0; i < due[d].length; i++) {
                is("element " + i + " of " + d, element(x, d, i), due[d][i]);
            }
        }
        leaves(x, "place -1", y -> y.put(2, -1, 5), -13);
        leaves(x, "place 3", y -> y.put(2, 3, 5), -13);
        leaves(x, "place least", y -> y.put(2, LEAST, 5), -13);
        leaves(x, "place most", y -> y.put(2, MOST, 5), -13);
        refusesD("put", (y, d) -> y.put(d, 0, 1), true);
    }

    static void element() {
        TakenUpByThePieces x = fresh();
        row(x, 0, 0, 5, -6);
        x.keep(1, 1, 2, 2);
        leaves(x, "the first", y -> element(y, 0, 0), 5);
        leaves(x, "the last", y -> element(y, 0, 1), -6);
        leaves(x, "behind the last", y -> element(y, 0, 2), STATE);
        leaves(x, "ahead of the first", y -> element(y, 0, -1), STATE);
        leaves(x, "place most", y -> element(y, 0, MOST), STATE);
        leaves(x, "a KIND", y -> element(y, 1, 0), STATE);
        leaves(x, "nothing", y -> element(y, 2, 0), STATE);
        leaves(x, "SHELF -1", y -> element(y, -1, 0), ARGUMENT);
        leaves(x, "SHELF 8", y -> element(y, 8, -1), ARGUMENT);
        leaves(x, "SHELF most", y -> element(y, MOST, 0), ARGUMENT);
    }

    static String elements(TakenUpByThePieces x, int d, int n) {
        long[] e = new long[n];
        for (int i = 0; i < n; i++) {
            e[i] = element(x, d, i);
        }
        return Arrays.toString(e);
    }

    static void copies(int i, int j, int n, String due) {
        TakenUpByThePieces x = fresh();
        row(x, 0, 2, 1, 2, 3, 4, 5);
        is("copy", x.copy(0, i, 0, j, n), n);
        is("copied " + elements(x, 0, 5), elements(x, 0, 5).equals(due) ? 1 : 0, 1);
    }

    static void copy() {
        copies(0, 2, 3, "[1, 2, 1, 2, 3]");
        copies(2, 0, 3, "[3, 4, 5, 4, 5]");
        copies(0, 0, 5, "[1, 2, 3, 4, 5]");
        copies(5, 5, 0, "[1, 2, 3, 4, 5]");
        TakenUpByThePieces x = fresh();
        row(x, 0, 0, 1, 2, 3);
        row(x, 1, 0, 7, 8);
        row(x, 2, 1, 7, 8);
        x.keep(3, 1, 0, 0);
        is("from one to another", x.copy(0, 1, 1, 0, 2), 2);
        is("they have come", element(x, 1, 0) * 10 + element(x, 1, 1), 23);
        is("they stay", element(x, 0, 1), 2);
        leaves(x, "d 8", y -> y.copy(8, 0, 1, 0, 1), -1);
        leaves(x, "e -1", y -> y.copy(0, 0, -1, 0, 1), -1);
        leaves(x, "-1 goes ahead", y -> y.copy(5, 0, 8, 0, 1), -1);
        leaves(x, "nothing in d", y -> y.copy(5, 0, 1, 0, 1), -11);
        leaves(x, "nothing in e", y -> y.copy(1, 0, 5, 0, 1), -11);
        leaves(x, "-11 goes ahead", y -> y.copy(3, 0, 5, 0, 1), -11);
        leaves(x, "a KIND in d", y -> y.copy(3, 0, 1, 0, 1), -12);
        leaves(x, "a KIND in e", y -> y.copy(1, 0, 3, 0, 1), -12);
        leaves(x, "two KINDS", y -> y.copy(3, 0, 3, 0, 1), -12);
        leaves(x, "unlike SORTS", y -> y.copy(1, 0, 2, 0, 1), -12);
        leaves(x, "-12 goes ahead", y -> y.copy(1, 0, 2, 0, -1), -12);
        leaves(x, "n -1", y -> y.copy(0, 0, 1, 0, -1), -13);
        leaves(x, "n 3", y -> y.copy(0, 0, 1, 0, 3), -13);
        leaves(x, "i 2", y -> y.copy(0, 2, 1, 0, 2), -13);
        leaves(x, "i -1", y -> y.copy(0, -1, 1, 0, 1), -13);
        leaves(x, "j -1", y -> y.copy(0, 0, 1, -1, 1), -13);
        leaves(x, "j 1", y -> y.copy(0, 0, 1, 1, 2), -13);
        leaves(x, "i most", y -> y.copy(0, MOST, 1, 0, 1), -13);
        leaves(x, "n most", y -> y.copy(0, 1, 1, 1, MOST), -13);
        leaves(x, "n least", y -> y.copy(0, 0, 1, 0, LEAST), -13);
    }

    static void costAndToss(boolean costs) {
        int[][] table = {
            {0, 0, 1, -15}, {0, 9, 1, 9}, {1, 0, 3, -15}, {1, 4, 3, 4}, {2, 0, 1, -15}, {2, 9, 10, 109},
            {3, 0, 2, -15}, {3, 9, 2, -15}, {4, 0, 2, -15}, {4, 4, 10, 104}, {4, 9, 20, 109}, {5, 0, 0, -15},
            {5, 9, 0, -15}, {6, 0, 1, -15}, {6, 9, 10, 210}, {6, 4, 5, 205}, {7, 0, 1, -15}, {7, 9, 1, -15}};
        for (int[] line : table) {
            TakenUpByThePieces x = fresh();
            x.keep(4, 1, line[0], line[1]);
            leaves(x, "KIND " + line[0] + ", FIGURE " + line[1], y -> costs ? y.cost(4) : y.toss(4),
                    costs ? line[2] : line[3]);
        }
        refusesD(costs ? "cost" : "toss", (y, d) -> costs ? y.cost(d) : y.toss(d), false);
    }

    public static void main(String[] args) {
        Runnable[] promises = {PromisesTest::aNewObject, PromisesTest::game, PromisesTest::piece, PromisesTest::on,
            PromisesTest::comes, PromisesTest::stands, PromisesTest::takes, PromisesTest::turn, PromisesTest::days,
            PromisesTest::squareThen, PromisesTest::then, PromisesTest::falls, PromisesTest::still,
            PromisesTest::next, PromisesTest::heard, PromisesTest::danger, PromisesTest::stand, PromisesTest::off,
            PromisesTest::ears, PromisesTest::side, PromisesTest::free, PromisesTest::whatIs,
            PromisesTest::whereFrom, PromisesTest::two, PromisesTest::rain, PromisesTest::share,
            PromisesTest::forged, PromisesTest::judge, PromisesTest::games, PromisesTest::image,
            PromisesTest::restore, PromisesTest::count, PromisesTest::keep, PromisesTest::row, PromisesTest::put,
            PromisesTest::element, PromisesTest::copy, () -> costAndToss(true), () -> costAndToss(false)};
        for (Runnable tested : promises) {
            promise++;
            tested.run();
        }
        System.out.println(passed + " checks hold, " + failed + " do not");
        if (failed != 0) {
            System.exit(1);
        }
    }
}
