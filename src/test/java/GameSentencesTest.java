import java.util.Arrays;

/** Part I of the document, sentence by sentence: the BOARD, IDEAS, who hears, a DAY, THE TEXT; promises 1 to 9. */
public final class GameSentencesTest extends Sentences {

    // ---- promise 1: a new object

    static void aNewObject() {
        sentence(1, "No PIECES, white's TURN.");
        leaves("", "PIECES", x -> x.count(0), 0);
        leaves("", "TURN", x -> x.count(2), 0);
        leaves("", "THERE", x -> x.count(4), 0);
        leaves("", "FREE", x -> x.free(0), 36);
        for (int square = 0; square < 36; square++) {
            int empty = square;
            ask("", "on(" + square + ")", x -> x.on(empty), -4);
        }
        sentence(1, "TURN: a SIDE (0 at first). THOUGHT (0 .. 9999; 0 at first). DAY (0 .. 999; 0 at first).");
        leaves("", "DAY", x -> x.count(1), 0);
        leaves("", "THOUGHT", x -> x.count(3), 0);
        sentence(1, "SHELVES 0 .. 7 each hold nothing (at first)");
        for (int d = 0; d < 8; d++) {
            int shelf = d;
            ask("", "cost(" + d + ")", x -> x.cost(shelf), -11);
            ask("", "put(" + d + ", 0, 0)", x -> x.put(shelf, 0, 0), -11);
            ask("", "element(" + d + ", 0)", x -> x.element(shelf, 0), STATE);
        }
        sentence(1, "-3 there is none.");
        leavesWithoutImage(() -> told(""), "restore()", x -> x.restore(), -3);
        Game first = told(TEN + "d05;");
        first.image();
        Game second = fresh();
        is("a second object's PIECES", second.count(0), 0);
        is("a second object's restore()", second.restore(), -3);
        is("the first one's restore()", first.restore(), 5);
    }

    /** Each asking call, made till none is left: the last one answers what the first did. */
    static void fiveHundredAndTwelve() {
        sentence(1, "An object is used for at most 512 calls after it has been made; what later calls answer is free.");
        Call[] calls = {x -> x.piece(9, 6), x -> x.on(9), x -> x.squareThen(9, 60), x -> x.then(60, 0), x -> x.falls(9),
            x -> x.falls(-1), x -> x.still(), x -> x.next(1), x -> x.heard(9), x -> x.danger(0), x -> x.stand(9, 20, 0),
            x -> x.off(30), x -> x.ears(9, 8), x -> x.side(1, 0), x -> x.free(2), x -> x.whatIs(1, 9, 1),
            x -> x.whereFrom(1, 9, 0), x -> x.two(0, 9, 30), x -> x.rain(9, 7, 20, 0), x -> x.share(1, 0),
            x -> x.forged(1), x -> x.judge(1), x -> x.games(20, 77, 0), x -> x.image(), x -> x.count(4),
            x -> x.element(1, 5), x -> x.copy(1, 0, 1, 0, 6), x -> x.cost(2), x -> x.toss(2), x -> x.stands(9, 9)};
        for (int i = 0; i < calls.length; i++) {
            Game x = told(TEN);
            row(x, 1, 2, LEAST, LEAST, LEAST, LEAST, LEAST, 9);
            x.keep(2, 1, 6, 9);
            long first = calls[i].of(x);
            while (x.calls() < 511) {
                calls[i].of(x);
            }
            is("call 512 of asking " + i, calls[i].of(x), first);
        }
        Game x = told("p00002;");
        while (x.calls() < 511) {
            x.turn(0);
        }
        is("days(1) as the 512th call", x.days(1), 1);
    }

    // ---- promise 2: game

    static void statements() {
        sentence(2, "STATEMENTS, each with \";\" behind, one at least");
        text("", -1000);
        text("t0;", 1);
        text("t0;t1;", 2);
        text("t0", -1002);
        text(";", -1000);
        text("t0;;", -1003);
        text("t0;t1", -1005);
        sentence(2, "The text in SHELF d: how many STATEMENTS; the FAULT. -1, -11, -12 (no ROW of bytes).");
        text("d01;".repeat(25), 25);
        text("t0;".repeat(33), 33);
        shelfRefusals("game", true, (x, d) -> x.game(d));
        leaves(with("p00014;", 1, 't', '0', ';'), "game of shorts", x -> x.game(1), -12);
        leaves(with("p00014;", 2, 't', '0', ';'), "game of ints", x -> x.game(1), -12);
        leaves(with("p00014;", 1), "game of no shorts", x -> x.game(1), -12);
        leaves(with("p00014;", 0), "game of no bytes", x -> x.game(1), -1000);
        sentence(2, "The ROW of a text, and what is taken from a SHELF, stay there");
        Game x = fresh();
        is("game", tell(x, 0, "t1;d01;"), 2);
        for (int i = 0; i < 7; i++) {
            is("element " + i, x.element(0, i), "t1;d01;".charAt(i));
        }
        is("game, once more", x.game(0), 2);
        is("DAY", x.count(1), 2);
    }

    /** What game() answers of a text on a board of two; FAULTS change nothing. */
    static void text(String text, long want) {
        text("p00014;p20120;", text, want);
    }

    static void text(String before, String text, long want) {
        Made made = () -> {
            Game x = told(before);
            text(x, 0, text);
            return x;
        };
        if (want < 0) {
            leaves(made, before + " and the text " + text, x -> x.game(0), want);
        } else {
            ask(made, before + " and the text " + text, x -> x.game(0), want);
        }
    }

    /** The same of a text that is done; then another call is asked. */
    static void after(String before, String text, String call, Call asked, long want) {
        Game x = told(before);
        is("the text " + text, tell(x, 0, text), text.chars().filter(sign -> sign == ';').count());
        is(before + " and the text " + text + " " + call, asked.of(x), want);
    }

    static void statementP() {
        sentence(2, "\"p\" KIND, FIGURE, SIDE (a digit each), SQUARE (2 digits): a PIECE more");
        after("", "p79135;", "KIND", x -> x.piece(0, 0), 7);
        after("", "p79135;", "FIGURE", x -> x.piece(0, 1), 9);
        after("", "p79135;", "SIDE", x -> x.piece(0, 2), 1);
        after("", "p79135;", "SQUARE", x -> x.piece(0, 3), 35);
        after("", "p00000;", "KIND", x -> x.piece(0, 0), 0);
        after("", "p00000;", "SQUARE", x -> x.piece(0, 3), 0);
        after("", "p00000;", "THERE", x -> x.count(4), 1);
        after("p00014;x0;", "p00014;", "the number", x -> x.on(14), 1);
        text("p80000;", -2000);
        text("p90000;", -2000);
        text("p00200;", -2000);
        text("p00900;", -2000);
        text("p00036;", -2000);
        text("p00099;", -2000);
        text("p00040;", -2000);
    }

    static void statementM() {
        sentence(2, "\"m\" a PIECE (a digit), SQUARE (2 digits): it stands there (THERE then)");
        after("p00014;p20120;", "m000;", "SQUARE", x -> x.piece(0, 3), 0);
        after("p00014;p20120;", "m000;", "where it stood", x -> x.on(14), -4);
        after("p00014;p20120;", "m135;", "SQUARE", x -> x.piece(1, 3), 35);
        after("p00014;p20120;", "m100;", "who is on 0", x -> x.on(0), 1);
        after(TEN, "m935;", "the tenth", x -> x.piece(9, 3), 35);
        text("m036;", -2000);
        text("m099;", -2000);
        text("m200;", -2000);
        text("m900;", -2000);
        text("m120;m114;", -2005);
        sentence(2, "\"m\" brings back one that was TAKEN, and may tell its own SQUARE");
        after("p00014;x0;", "m035;", "SQUARE", x -> x.piece(0, 3), 35);
        after("p00014;x0;", "m035;", "THERE", x -> x.count(4), 1);
        after("p00014;", "m014;", "SQUARE", x -> x.piece(0, 3), 14);
        after("p00014;", "m014;", "who is on 14", x -> x.on(14), 0);
        text("p00014;p20120;x0;", "m020;", -2000);
    }

    static void statementXTK() {
        sentence(2, "\"x\" a PIECE (a digit): TAKEN");
        after("p00014;p20120;", "x0;", "SQUARE", x -> x.piece(0, 3), -4);
        after("p00014;p20120;", "x1;", "THERE", x -> x.count(4), 1);
        after("p00014;p20120;", "x1;", "who is on 20", x -> x.on(20), -4);
        after(TEN, "x9;", "THERE", x -> x.count(4), 511);
        text("x2;", -2000);
        text("x9;", -2000);
        text("p00014;p20120;x0;", "x0;", -2000);
        text("x1;x1;", -2003);
        sentence(2, "\"t\" a SIDE (a digit): its TURN");
        after("t1;", "t0;", "TURN", x -> x.count(2), 0);
        after("", "t1;", "TURN", x -> x.count(2), 1);
        after("t1;", "t1;", "TURN", x -> x.count(2), 1);
        text("t2;", -2000);
        text("t9;", -2000);
        sentence(2, "\"k\" a PIECE, KIND, FIGURE (a digit each): it becomes so");
        after("p00014;p20120;", "k179;", "KIND", x -> x.piece(1, 0), 7);
        after("p00014;p20120;", "k179;", "FIGURE", x -> x.piece(1, 1), 9);
        after("p00014;p29120;", "k100;", "KIND and FIGURE", x -> 10 * x.piece(1, 0) + x.piece(1, 1), 0);
        after("p00014;p20120;", "k179;", "SIDE and SQUARE", x -> 100 * x.piece(1, 2) + x.piece(1, 3), 120);
        after("p00014;p20120;x1;", "k179;", "one TAKEN", x -> 10 * x.piece(1, 0) + x.piece(1, 3), 66);
        after(TEN, "k975;", "the tenth", x -> 10 * x.piece(9, 0) + x.piece(9, 1), 75);
        text("k080;", -2000);
        text("k090;", -2000);
        text("k200;", -2000);
        text("k900;", -2000);
    }

    static void statementD() {
        sentence(2, "\"d\" DAYS (2 digits, 1 .. 60)");
        after("", "d01;", "DAY", x -> x.count(1), 1);
        after("", "d60;", "DAY", x -> x.count(1), 60);
        after("", "d09;d10;", "DAY", x -> x.count(1), 19);
        after("", "d01;", "TURN", x -> x.count(2), 1);
        after("p00002;", "d03;", "SQUARE", x -> x.piece(0, 3), 14);
        text("d00;", -2000);
        text("d61;", -2000);
        text("d99;", -2000);
        sentence(2, "days() is refused (-3; in THE TEXT kind 2), if DAY and n together are above 999;"
                + " none of them goes then.");
        after(DAY_960, "d39;", "DAY", x -> x.count(1), 999);
        text(DAY_960, "d40;", -2000);
        text(DAY_999, "d01;", -2000);
        text(DAY_999, "d60;", -2000);
        text(DAY_960, "d38;d01;d01;", -2008);
        text("p00002;", "d60;".repeat(16) + "d40;", -2064);
        text("", "d60;".repeat(17), -2064);
        after("", "d60;".repeat(16) + "d39;", "DAY", x -> x.count(1), 999);
    }

    static void wrongBytes() {
        sentence(2, "FAULT: kind 1 the place of the first byte with which no GAME can go on (the end, if something lacks):"
                + " -1000 less the place;");
        String all = "p00003;m015;x0;t1;k000;d01;";
        String others = "/:;0 \u0000\u007f\u0080\u00ffPMXTKDoqlnwysujlce\"";
        for (int place = 0; place < all.length(); place++) {
            headAlone(all, place);
            for (int i = 0; i < others.length(); i++) {
                if (!isOfItsSort(all.charAt(place), others.charAt(i))) {
                    text(all.substring(0, place) + others.charAt(i) + all.substring(place + 1), -1000 - place);
                }
            }
        }
        text("d01;".repeat(24) + "d01", -1099);
        text("d01;".repeat(24) + "d010", -1099);
        text("d01;".repeat(24) + "m000", -1100);
        text("d01;".repeat(24) + "p000", -1100);
        text("d01;".repeat(24) + "q01;", -1096);
        text("d01;".repeat(24) + "d01;", 25);
        text("t0;".repeat(33) + "p", -1100);
        text("t0;".repeat(33) + ";", -1099);
        sentence(2, "numbers in THE TEXT have just as many digits as told");
        text("p0000;", -1005);
        text("p000000;", -1006);
        text("m00;", -1003);
        text("m0000;", -1004);
        text("x;", -1001);
        text("x00;", -1002);
        text("t;", -1001);
        text("t00;", -1002);
        text("k00;", -1003);
        text("k0000;", -1004);
        text("d1;", -1002);
        text("d001;", -1003);
        text("d-1;", -1001);
    }

    /** Whether a byte is as good at a place as the other, be it in range or not: a digit for a digit. */
    static boolean isOfItsSort(char due, char other) {
        boolean bothDigits = due >= '0' && due <= '9' && other >= '0' && other <= '9';
        return due == other || bothDigits;
    }

    /** A text that ends ahead of a place: it lacks something, but behind a ";". */
    static void headAlone(String all, int place) {
        String head = all.substring(0, place);
        if (place == 0 || head.charAt(place - 1) != ';') {
            text(head, -1000 - place);
        } else {
            text(head, head.chars().filter(sign -> sign == ';').count());
        }
    }

    static void wrongStatements() {
        sentence(2, "the place of the letter of the first STATEMENT that is not as it must be (a number out of range,"
                + " no such PIECE, a SQUARE with another one THERE, one TAKEN already (\"x\"), DAY above 999, no room):"
                + " -2000 less the place.");
        text("t0;p80000;", -2003);
        text("t0;m200;", -2003);
        text("t0;x2;", -2003);
        text("t0;k200;", -2003);
        text("t0;p00014;", -2003);
        text("t0;p00020;", -2003);
        text("t0;m020;", -2003);
        text("t0;x0;x0;", -2006);
        text(DAY_960, "t0;d40;", -2003);
        text(TEN, "t0;p00030;", -2003);
        text("d01;".repeat(22) + "t0;".repeat(3) + "t2;", -2097);
        text("d01;".repeat(24) + "d61;", -2096);
        text("t2;t2;", -2000);
        text("t0;t2;t3;", -2003);
        sentence(2, "PIECES 0 .. 9 as they come (10 at most)");
        after("", "p00000;p00001;p00002;p00003;p00004;p00005;p00006;p00007;p00008;p00009;", "on(9)", x -> x.on(9), 9);
        text("p00000;p00001;p00002;p00003;p00004;p00005;p00006;p00007;p00008;", "p00009;p00010;", -2007);
        text(TEN + "x9;", "p00009;", -2000);
        sentence(2, "Without FAULT all of it comes, with one nothing.");
        text("p00003;m015;x1;t1;k055;d20;t2;", -2027);
        text("p00003;m015;x1;t1;k055;d20;t", -1028);
        after("p00014;p20120;", "p00003;m015;x1;t1;k055;d20;", "all", x -> x.count(0) * 10000 + x.count(1) * 100
                + x.count(4), 30000 + 2000 + 5);
        sentence(2, "STATEMENTS are tried one behind the other, each on what those ahead of it made,"
                + " and the first that can't be done so is told (kind 2).");
        text("", "m000;p00014;", -2000);
        after("", "p00014;m000;", "on(0)", x -> x.on(0), 0);
        after("p00014;", "x0;p00014;", "on(14)", x -> x.on(14), 1);
        text("p00014;", "p00015;m115;m014;m014;m114;", -2022);
        after("p00002;", "d01;p00002;", "PIECES", x -> x.count(0), 2);
        text("p00002;", "d01;p00008;", -2004);
        text("p20002;p00132;", "d01;x1;", -2004);
        after("p20002;p00132;", "d01;m102;", "on(2)", x -> x.on(2), 1);
        sentence(2, "FAULTS of kind 1 go ahead of those of kind 2, wherever they are.");
        text("t2;t", -1004);
        text("t2;t0;!", -1006);
        text("p80000;p00036;x9;;", -1017);
        text("d99;".repeat(24) + "d99", -1099);
    }

    // ---- promise 3: piece

    static void piece() {
        sentence(3, "Of one: KIND (what 0), FIGURE (1), SIDE (2), SQUARE (3; -4 TAKEN), EARS (4), WORTH (5),"
                + " IDEA on the next DAY (6; -4, TAKEN too). -1.");
        for (int what = 0; what < 7; what++) {
            int asked = what;
            pieceBounds("piece(p, " + what + ")", (x, p) -> x.piece(p, asked));
        }
        bounds("p29014;", "piece(0, what)", 0, 6, (x, what) -> x.piece(0, what));
        leaves("p29114;", "KIND", x -> x.piece(0, 0), 2);
        leaves("p29114;", "FIGURE", x -> x.piece(0, 1), 9);
        leaves("p29114;", "SIDE", x -> x.piece(0, 2), 1);
        leaves("p29100;", "SQUARE", x -> x.piece(0, 3), 0);
        leaves("p29135;", "SQUARE", x -> x.piece(0, 3), 35);
        leaves("p29114;", "IDEA", x -> x.piece(0, 6), 2);
        leaves("p29114;x0;", "SQUARE of one TAKEN", x -> x.piece(0, 3), -4);
        leaves("p29114;x0;", "IDEA of one TAKEN", x -> x.piece(0, 6), -4);
        leaves("p29114;x0;", "EARS of one TAKEN", x -> x.piece(0, 4), 9);
        leaves("p29114;x0;", "WORTH of one TAKEN", x -> x.piece(0, 5), 5);
        idea(DAY_999 + "p38014;", 21);
        idea(DAY_999 + "p39014;", -4);
        idea(DAY_960 + "d38;p37014;", 21);
        idea(DAY_960 + "d38;p38014;", -4);
        sentence(3, "One that is TAKEN has no SQUARE.");
        ask("p00014;x0;", "on(14)", x -> x.on(14), -4);
    }

    /** The IDEA of PIECE 0 on the next DAY. */
    static void idea(String text, int want) {
        ask(text, "IDEA", x -> x.piece(0, 6), want);
    }

    static void pawnIdeas() {
        sentence(3, "PAWN 1 FORWARD, if that is free; else 1 FORWARD and 1 right, if one of the other SIDE is there.");
        idea("p00014;", 20);
        idea("p00114;", 8);
        idea("p00000;", 6);
        idea("p00029;", 35);
        idea("p00030;", -4);
        idea("p00035;", -4);
        idea("p00135;", 29);
        idea("p00106;", 0);
        idea("p00100;", -4);
        idea("p00105;", -4);
        idea("p00014;p00121;", 20);
        idea("p00014;p00120;", -4);
        idea("p00014;p00120;p00021;", -4);
        idea("p00014;p00120;p00119;", -4);
        idea("p00014;p00120;p00121;", 21);
        idea("p00114;p00008;p00009;", 9);
        idea("p00114;p00008;p00007;", -4);
        idea("p00017;p00123;p00124;p00122;", -4);
        idea("p00111;p00005;p00006;", -4);
        idea("p00034;p00135;p00105;", -4);
        sentence(3, "A PAWN with one of its own SIDE FORWARD may go right all the same.");
        idea("p00014;p00020;p00121;", 21);
        idea("p00114;p00108;p00009;", 9);
        idea("p00014;p00020;", -4);
        sentence(3, "free: none THERE on it");
        idea("p00014;p00120;x1;", 20);
        idea("p00014;p00120;p00121;x2;", -4);
    }

    static void knightIdeas() {
        sentence(3, "KNIGHT 2 FORWARD and 1 right, else 2 FORWARD and 1 left (the first of these on the BOARD"
                + " without one of its own SIDE; neither: none).");
        idea("p10001;", 14);
        idea("p10131;", 20);
        idea("p10022;", 35);
        idea("p10018;", 31);
        idea("p10024;", -4);
        idea("p10030;", -4);
        idea("p10112;", 1);
        idea("p10106;", -4);
        idea("p10100;", -4);
        idea("p10005;", 16);
        idea("p10135;", 22);
        idea("p10005;p00016;", -4);
        idea("p10005;p00116;", 16);
        idea("p10000;p00013;", -4);
        idea("p10000;p00113;", 13);
        idea("p10001;p00114;", 14);
        idea("p10001;p00014;", 12);
        idea("p10001;p00014;p00112;", 12);
        idea("p10001;p00014;p00012;", -4);
        idea("p10001;p00014;p00012;x2;", 12);
        idea("p10001;p00014;x1;", 14);
        idea("p10001;p00007;p00008;", 14);
    }

    static void rookIdeas() {
        sentence(3, "ROOK FORWARD over free ones as far as it goes, or to the first of the other SIDE"
                + " (not at least 1: none).");
        for (String rook : new String[] {"p20", "p60"}) {
            idea(rook + "002;", 32);
            idea(rook + "026;", 32);
            idea(rook + "032;", -4);
            idea(rook + "132;", 2);
            idea(rook + "108;", 2);
            idea(rook + "102;", -4);
            idea(rook + "002;p00008;", -4);
            idea(rook + "002;p00014;", 8);
            idea(rook + "002;p00032;", 26);
            idea(rook + "002;p00014;x1;", 32);
            idea(rook + "005;", 35);
            idea(rook + "100;", -4);
        }
        sentence(3, "A ROOK's IDEA with one of the other SIDE at the end is the SQUARE of that one.");
        idea("p20002;p00108;", 8);
        idea("p20002;p00126;", 26);
        idea("p20002;p00132;", 32);
        idea("p20002;p00126;p00120;", 20);
        idea("p20002;p00020;p00126;", 14);
        idea("p20132;p00002;", 2);
        idea("p60002;p00132;", 32);
    }

    static void bishopIdeas() {
        sentence(3, "BISHOP 1 FORWARD and 1 right, if none of its own SIDE is there and 2 more than FIGURE divides d.");
        idea("p30014;", -4);
        idea("d01;p30014;", 21);
        idea("d02;p30014;", -4);
        idea("d09;p39014;", -4);
        idea("d10;p39014;", 21);
        idea("d11;p39014;", -4);
        idea("d21;p39014;", 21);
        for (int figure = 0; figure < 10; figure++) {
            for (int day = 1; day <= 60; day++) {
                String before = day > 1 ? "d" + (day - 1) + ";" : "";
                idea(before + "p3" + figure + "014;", day % (figure + 2) == 0 ? 21 : -4);
            }
        }
        idea("d01;p30014;p00021;", -4);
        idea("d01;p30014;p00021;x1;", 21);
        idea("d01;p30014;p00121;", 21);
        idea("d01;p30114;", 9);
        idea("d01;p30114;p00009;", 9);
        idea("d01;p30114;p00109;", -4);
        idea("d01;p30028;", 35);
        idea("d01;p30029;", -4);
        idea("d01;p30017;", -4);
        idea("d01;p30023;", -4);
        idea("d01;p30030;", -4);
        idea("d01;p30110;", 5);
        idea("d01;p30111;", -4);
        idea("d01;p30100;", -4);
        idea("d01;p30117;", -4);
    }

    static void queenIdeas() {
        sentence(3, "QUEEN as a ROOK, else likewise to the right.");
        idea("p40002;", 32);
        idea("p40026;", 32);
        idea("p40032;", 35);
        idea("p40030;", 35);
        idea("p40034;", 35);
        idea("p40035;", -4);
        idea("p40102;", 5);
        idea("p40105;", -4);
        idea("p40108;", 2);
        idea("p40002;p00008;", 5);
        idea("p40002;p00108;", 8);
        idea("p40002;p00008;p00003;", -4);
        idea("p40002;p00008;p00004;", 3);
        idea("p40002;p00008;p00005;", 4);
        idea("p40002;p00008;p00103;", 3);
        idea("p40002;p00008;p00105;", 5);
        idea("p40002;p00008;p00105;p00104;", 4);
        idea("p40002;p00008;p00004;p00105;", 3);
        idea("p40011;p00017;", -4);
        idea("p40011;p00017;p00112;", -4);
        idea("p40030;p00131;", 31);
    }

    static void kingIdeas() {
        sentence(3, "KING 1 back (FORWARD the other way), if that is free and one of the other SIDE"
                + " is at most 1 row and 1 column off.");
        int[] near = {7, 9, 13, 15, 19, 20, 21};
        for (int square = 0; square < 36; square++) {
            int other = square;
            boolean isNear = Arrays.stream(near).anyMatch(s -> s == other);
            if (square != 14) {
                idea("p50014;p001" + twoDigits(square) + ";", isNear ? 8 : -4);
                idea("p50014;p000" + twoDigits(square) + ";", -4);
            }
        }
        ask("p00121;p50014;", "IDEA of 1", x -> x.piece(1, 6), 8);
        ask("p00121;p00035;p50014;", "IDEA of 2", x -> x.piece(2, 6), 8);
        idea("p50014;p00035;p00121;", 8);
        idea("p50014;p00121;p00008;", -4);
        idea("p50014;p00121;p00108;", -4);
        idea("p50014;p00121;x1;", -4);
        idea("p50014;p00121;p00008;x2;", 8);
        idea("p50114;p00009;", 20);
        idea("p50114;p00020;", -4);
        idea("p50002;p00103;", -4);
        idea("p50008;p00109;", 2);
        idea("p50132;p00033;", -4);
        idea("p50126;p00027;", 32);
        idea("p50011;p00112;", -4);
        idea("p50012;p00111;", -4);
        sentence(3, "A KING asks who is near where it is now.");
        idea("p50020;p00108;", -4);
        idea("p50020;p00107;", -4);
        idea("p50020;p00126;", 14);
        idea("p50020;p00127;", 14);
    }

    static void deafAndNunIdeas() {
        sentence(3, "DEAF as a ROOK. NUN 1 left, if that is free, else as a BISHOP.");
        idea("p60014;", 32);
        idea("p60114;", 2);
        idea("p70014;", 13);
        idea("p70114;", 13);
        idea("d01;p70014;", 13);
        idea("p70013;", 12);
        idea("d01;p70014;p00013;", 21);
        idea("d02;p70014;p00013;", -4);
        idea("d01;p70014;p00113;", 21);
        idea("d01;p70014;p00113;p00021;", -4);
        idea("d01;p70014;p00113;p00121;", 21);
        idea("d01;p70014;p00113;x1;", 13);
        idea("d01;p70114;p00013;", 9);
        idea("d09;p79014;p00013;", -4);
        idea("d10;p79014;p00013;", 21);
        sentence(3, "A NUN in column 0 is as a BISHOP.");
        idea("d01;p70012;", 19);
        idea("d02;p70012;", -4);
        idea("d01;p70000;", 7);
        idea("d01;p70030;", -4);
        idea("d01;p70112;", 7);
        idea("d01;p70130;", 25);
    }

    static void ears() {
        sentence(3, "EARS: PAWN 2; KNIGHT 3; ROOK FIGURE; BISHOP 2 more than a PAWN; QUEEN 3 more than a ROOK;"
                + " KING 5; DEAF 0; NUN as a BISHOP.");
        int[][] atNoneAndNine = {{2, 2}, {3, 3}, {0, 9}, {4, 4}, {3, 12}, {5, 5}, {0, 0}, {4, 4}};
        for (int kind = 0; kind < 8; kind++) {
            ask("p" + kind + "0014;", "EARS", x -> x.piece(0, 4), atNoneAndNine[kind][0]);
            ask("p" + kind + "9014;", "EARS", x -> x.piece(0, 4), atNoneAndNine[kind][1]);
        }
        ask("p21014;", "EARS", x -> x.piece(0, 4), 1);
        ask("p41014;", "EARS", x -> x.piece(0, 4), 4);
        sentence(3, "WORTH: PAWN 1; KNIGHT 3; ROOK 5; BISHOP FIGURE by 3, cut, more than a PAWN;"
                + " QUEEN twice a ROOK's, 1 less; KING 9; DEAF 1 less than a ROOK; NUN as a BISHOP.");
        int[] worth = {1, 3, 5, 1, 9, 9, 4, 1};
        for (int kind = 0; kind < 8; kind++) {
            for (int figure = 0; figure < 10; figure++) {
                int due = worth[kind] + (kind == 3 || kind == 7 ? figure / 3 : 0);
                ask("p" + kind + figure + "014;", "WORTH", x -> x.piece(0, 5), due);
            }
        }
    }

    // ---- promises 4 to 8: on, comes, stands, takes, turn

    static void on() {
        sentence(4, "A BOARD of SQUARES 0 .. 35");
        bounds(TEN, "on", 0, 35, (x, square) -> x.on(square));
        sentence(4, "Who is THERE on a SQUARE; -4. -1.");
        leaves("p00000;p00135;", "on(0)", x -> x.on(0), 0);
        leaves("p00000;p00135;", "on(35)", x -> x.on(35), 1);
        leaves("p00000;p00135;", "on(1)", x -> x.on(1), -4);
        leaves("p00000;p00135;", "on(34)", x -> x.on(34), -4);
        leaves("p00000;p00135;x1;", "on(35)", x -> x.on(35), -4);
        ask(TEN, "on(9)", x -> x.on(9), 9);
    }

    /** A KNIGHT with FIGURE 9 on SHELF 2, a ROW on SHELF 1. */
    static Made comer(String text) {
        return () -> {
            Game x = told(text);
            row(x, 1, 0, 5);
            x.keep(2, 1, 1, 9);
            return x;
        };
    }

    static void comes() {
        sentence(5, "The one on SHELF d is a PIECE more of a SIDE on a SQUARE: the number.");
        Game x = comer("p00014;").make();
        is("comes(2, 1, 35)", x.comes(2, 1, 35), 1);
        is("KIND", x.piece(1, 0), 1);
        is("FIGURE", x.piece(1, 1), 9);
        is("SIDE", x.piece(1, 2), 1);
        is("SQUARE", x.piece(1, 3), 35);
        is("comes(2, 0, 0)", x.comes(2, 0, 0), 2);
        is("SIDE", x.piece(2, 2), 0);
        is("THERE", x.count(4), 7);
        bounds(comer("p00014;"), "side", 0, 1, (y, side) -> y.comes(2, side, 3), -1);
        bounds(comer("p00014;"), "square", 0, 35, (y, square) -> y.comes(2, 0, square), -1);
        sentence(5, "PIECES 0 .. 9 as they come (10 at most)");
        Game ten = comer("").make();
        for (int p = 0; p < 10; p++) {
            is("comes", ten.comes(2, p % 2, p), p);
        }
        is("one more", ten.comes(2, 0, 35), -2);
        is("PIECES", ten.count(0), 10);
        leaves(comer(TEN), "no room", y -> y.comes(2, 0, 35), -2);
        leaves(comer(TEN + "x9;"), "one TAKEN is one of them", y -> y.comes(2, 0, 35), -2);
        sentence(5, "a SQUARE (one PIECE at most on each)");
        leaves(comer("p00014;"), "one is THERE", y -> y.comes(2, 0, 14), -3);
        leaves(comer("p00100;p00035;"), "one is THERE", y -> y.comes(2, 0, 0), -3);
        leaves(comer("p00100;p00035;"), "one is THERE", y -> y.comes(2, 1, 35), -3);
        ask(comer("p00014;x0;"), "one TAKEN is not THERE", y -> y.comes(2, 0, 14), 1);
        sentence(5, "The ROW of a text, and what is taken from a SHELF, stay there");
        is("cost", x.cost(2), 3);
        is("toss", x.toss(2), 9);
        comesRefuses();
    }

    static void comesRefuses() {
        sentence(5, "-1, -11, -12 (a ROW), -2, -3 one is THERE on it.");
        shelfRefusals("comes", false, (x, d) -> x.comes(d, 0, 3));
        sentence(5, "Answers of several REFUSALS are the first one as they are told at the call.");
        leaves(comer(TEN), "-1 (d) and -2", x -> x.comes(8, 0, 35), -1);
        leaves(comer("p00014;"), "-1 (side) and -11", x -> x.comes(3, 2, 3), -1);
        leaves(comer("p00014;"), "-1 (square) and -11", x -> x.comes(3, 0, 36), -1);
        leaves(comer("p00014;"), "-1 (side) and -12", x -> x.comes(1, -1, 3), -1);
        leaves(comer("p00014;"), "-1 (square) and -12", x -> x.comes(1, 0, -1), -1);
        leaves(comer(TEN), "-1 (side) and -2", x -> x.comes(2, 2, 35), -1);
        leaves(comer(TEN), "-1 (square) and -2", x -> x.comes(2, 0, 36), -1);
        leaves(comer("p00014;"), "-1 (side) and -3", x -> x.comes(2, 2, 14), -1);
        leaves(comer(TEN), "-11 and -2", x -> x.comes(3, 0, 35), -11);
        leaves(comer("p00014;"), "-11 and -3", x -> x.comes(3, 0, 14), -11);
        leaves(comer(TEN), "-12 and -2", x -> x.comes(1, 0, 35), -12);
        leaves(comer("p00014;"), "-12 and -3", x -> x.comes(1, 0, 14), -12);
        leaves(comer(TEN), "-2 and -3", x -> x.comes(2, 0, 0), -2);
    }

    static void stands() {
        sentence(6, "It stands on a SQUARE, THERE: where it stood (-4 TAKEN).");
        ask("p00014;", "stands(0, 0)", x -> x.stands(0, 0), 14);
        ask("p00000;", "stands(0, 35)", x -> x.stands(0, 35), 0);
        ask("p00035;", "stands(0, 35)", x -> x.stands(0, 35), 35);
        ask("p00014;x0;", "stands(0, 14)", x -> x.stands(0, 14), -4);
        Game x = told("p00014;p00115;x1;");
        x.stands(1, 0);
        is("THERE", x.count(4), 3);
        is("on(0)", x.on(0), 1);
        x.stands(1, 35);
        is("on(0) behind it", x.on(0), -4);
        is("on(35)", x.on(35), 1);
        is("SQUARE", x.piece(1, 3), 35);
        sentence(6, "-1, -3 another one is THERE on it.");
        pieceBounds("stands(p, 30)", (y, p) -> y.stands(p, 30));
        bounds("p00014;", "stands(0, square)", 0, 35, (y, square) -> y.stands(0, square));
        leaves("p00014;p00115;", "another one", y -> y.stands(0, 15), -3);
        leaves("p00014;p00115;x0;", "another one, for one TAKEN", y -> y.stands(0, 15), -3);
        leaves("p00014;p00100;", "another one", y -> y.stands(0, 0), -3);
        leaves("p00014;p00135;", "another one", y -> y.stands(0, 35), -3);
        ask("p00014;p00115;x1;", "one TAKEN is not THERE", y -> y.stands(0, 15), 14);
        sentence(6, "Answers of several REFUSALS are the first one as they are told at the call.");
        leaves("p00014;p00115;", "-1 (p) and -3", y -> y.stands(2, 15), -1);
    }

    static void takes() {
        sentence(7, "It is TAKEN: where it stood. -1, -3 it is.");
        ask("p00000;p00135;", "takes(0)", x -> x.takes(0), 0);
        ask("p00000;p00135;", "takes(1)", x -> x.takes(1), 35);
        Game x = told(TEN);
        is("takes(9)", x.takes(9), 9);
        is("PIECES", x.count(0), 10);
        is("THERE", x.count(4), 511);
        is("on(9)", x.on(9), -4);
        is("SQUARE", x.piece(9, 3), -4);
        pieceBounds("takes", (y, p) -> y.takes(p));
        leaves("p00014;p00115;x0;", "it is", y -> y.takes(0), -3);
        leaves(TEN + "x9;", "it is", y -> y.takes(9), -3);
    }

    static void turn() {
        sentence(8, "TURN becomes a SIDE's: the old. -1.");
        ask("", "turn(1)", x -> x.turn(1), 0);
        ask("t1;", "turn(0)", x -> x.turn(0), 1);
        ask("t1;", "turn(1)", x -> x.turn(1), 1);
        ask("t1;", "TURN then", x -> x.count(2), 1);
        ask("t1;t0;", "TURN then", x -> x.count(2), 0);
        bounds("t1;", "turn", 0, 1, (x, side) -> x.turn(side));
        bounds("", "turn", 0, 1, (x, side) -> x.turn(side));
    }

    // ---- promise 9: days

    static void days() {
        sentence(9, "n DAYS (1 .. 60): how many are THERE. -1, -3 DAY above 999.");
        ask("p00014;p00132;x1;", "days(1)", x -> x.days(1), 1);
        ask("", "days(60)", x -> x.days(60), 0);
        ask(TEN_QUEENS, "days(60)", x -> x.days(60), 10);
        ask("p20002;p00132;", "days(1)", x -> x.days(1), 1);
        bounds("p00002;", "days", 1, 60, (x, n) -> x.days(n));
        leaves(DAY_960 + "p00002;", "days(40)", x -> x.days(40), -3);
        leaves(DAY_960 + "p00002;", "days(60)", x -> x.days(60), -3);
        leaves(DAY_999 + "p00002;", "days(1)", x -> x.days(1), -3);
        sentence(9, "Answers of several REFUSALS are the first one as they are told at the call.");
        leaves(DAY_999, "-1 (n 0) and -3", x -> x.days(0), -1);
        leaves(DAY_999, "-1 (n 61) and -3", x -> x.days(61), -1);
        leaves(DAY_999, "-1 (n most) and -3", x -> x.days(MOST), -1);
        sentence(9, "days() is refused (-3; in THE TEXT kind 2), if DAY and n together are above 999;"
                + " none of them goes then.");
        ask(DAY_960, "days(39)", x -> x.days(39), 0);
        ask(DAY_960 + "d39;", "DAY", x -> x.count(1), 999);
        ask(DAY_960 + "d38;", "days(1)", x -> x.days(1), 0);
        leaves(DAY_960 + "d38;p00002;t0;", "days(2)", x -> x.days(2), -3);
        sentence(9, "THOUGHT is 1 more (9999 at most)");
        // THOUGHT is never above DAY: 9999 is out of reach.
        ask(DAY_999, "THOUGHT", x -> x.count(3), 999);
    }

    static void aDay() {
        sentence(9, "DAY is 1 more; of PIECES of the SIDE whose TURN it is, THERE, that have an IDEA, the one HEARD by most,"
                + " of several the least: if these are more than half of its SIDE THERE, it goes there"
                + " (who was there is TAKEN);");
        aDay("p00002;p00003;", 0, 8, 3);
        aDay("p00003;p00002;", 0, 9, 2);
        aDay("p00032;p00002;p00003;", 0, 32, 8, 3);
        aDay("p60005;p60003;p21004;", 0, 35, 3, 4);
        aDay("p60003;p50002;p60035;p00101;", 0, 33, 2, 35, 1);
        aDay("p29000;p60004;", 0, 0, 34);
        aDay("p20002;p00132;", 0, 32, -4);
        aDay("p00132;p20002;", 0, -4, 32);
        aDay("p20002;x0;p00132;m002;", 0, 32, -4);
        aDay("p00002;x0;", 1, -4);
        aDay("p00132;", 1, 32);
        sentence(9, "More than half: of all of its SIDE that are THERE.");
        for (int hearing = 0; hearing <= 9; hearing++) {
            for (int deaf = 0; hearing + deaf <= 9; deaf++) {
                boolean goes = 2 * (1 + hearing) > 1 + hearing + deaf;
                String text = agreed(hearing, deaf) + "d01;";
                ask(text, "where the PAWN is", x -> x.piece(0, 3), goes ? 18 : 12);
                ask(text, "THOUGHT", x -> x.count(3), goes ? 0 : 1);
            }
        }
        aDay("p00012;p60030;", 1, 12, 30);
        aDay("p00012;p60030;x1;", 0, 18, -4);
        aDay("p00012;p60130;p60131;", 0, 18, 30, 31);
        sentence(9, "else (or none has one) THOUGHT is 1 more (9999 at most). Then it is the other SIDE's TURN.");
        aDay("", 1);
        aDay("p00032;", 1, 32);
        aDay("p00002;", 0, 8);
        aDay("t1;p00102;", 1, 2);
        aDay("t1;p00114;", 0, 8);
        ask("d60;", "60 DAYS of nobody", x -> x.count(3), 60);
    }

    /** A DAY: how much more THOUGHT there is, and where all PIECES are then. */
    static void aDay(String text, int moreThought, int... squares) {
        Game x = told(text);
        int day = x.count(1);
        int turn = x.count(2);
        int thought = x.count(3);
        is(text + " days(1)", x.days(1), Arrays.stream(squares).filter(square -> square != -4).count());
        is(text + " DAY", x.count(1), day + 1);
        is(text + " TURN", x.count(2), 1 - turn);
        is(text + " THOUGHT", x.count(3), thought + moreThought);
        for (int p = 0; p < squares.length; p++) {
            is(text + " where " + p + " is", x.piece(p, 3), squares[p]);
        }
    }

    /** A PAWN on 12, on the last rows KINGS who hear it, and DEAF ones who do not: none of them has an IDEA. */
    static String agreed(int hearing, int deaf) {
        int[] squares = {30, 31, 32, 33, 34, 35, 25, 26, 27};
        StringBuilder text = new StringBuilder("p00012;");
        for (int i = 0; i < hearing + deaf; i++) {
            text.append(i < hearing ? "p500" : "p600").append(squares[i]).append(';');
        }
        return text.toString();
    }

    public static void main(String[] args) {
        aNewObject();
        fiveHundredAndTwelve();
        statements();
        statementP();
        statementM();
        statementXTK();
        statementD();
        wrongBytes();
        wrongStatements();
        piece();
        pawnIdeas();
        knightIdeas();
        rookIdeas();
        bishopIdeas();
        queenIdeas();
        kingIdeas();
        deafAndNunIdeas();
        ears();
        on();
        comes();
        stands();
        takes();
        turn();
        days();
        aDay();
        end(1, 9);
    }
}
