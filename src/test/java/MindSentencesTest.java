/** Part II of the document, sentence by sentence: what is asked in mind; promises 10 to 29. */
public final class MindSentencesTest extends Sentences {
    /** Black's BISHOP goes on DAYS 22, 44, 66, and takes the KING, who has no way back, on DAY 66. */
    static final String BISHOP_OF_66 = "p39124;p50009;p00003;";

    /** White's ROOK goes ahead and takes the PAWN, as KINGS agree who hear it from afar. */
    static final String FROM_AFAR = "p20002;p50004;p50005;p00132;";

    // ---- promises 10 to 14: days on

    static void squareThen() {
        sentence(10, "In mind, n DAYS on (0 .. 60)");
        bounds("p00002;", "squareThen(0, n)", 0, 60, (x, n) -> x.squareThen(0, n));
        leaves("p00002;", "squareThen(0, 0)", x -> x.squareThen(0, 0), 2);
        leaves("p00002;", "squareThen(0, 1)", x -> x.squareThen(0, 1), 8);
        leaves("p00002;", "squareThen(0, 2)", x -> x.squareThen(0, 2), 8);
        leaves("p00002;", "squareThen(0, 8)", x -> x.squareThen(0, 8), 26);
        leaves("p00002;", "squareThen(0, 9)", x -> x.squareThen(0, 9), 32);
        leaves("p00002;", "squareThen(0, 60)", x -> x.squareThen(0, 60), 32);
        leaves(BISHOP_OF_66 + "d06;", "squareThen(0, 59)", x -> x.squareThen(0, 59), 14);
        leaves(BISHOP_OF_66 + "d06;", "squareThen(0, 60)", x -> x.squareThen(0, 60), 9);
        leaves(BISHOP_OF_66 + "d06;", "squareThen(1, 59)", x -> x.squareThen(1, 59), 9);
        sentence(10, "(DAY may pass 999 there)");
        leaves(DAY_999 + "p39114;", "squareThen(0, 1)", x -> x.squareThen(0, 1), 14);
        leaves(DAY_999 + "t0;p38014;", "on DAY 1000", x -> x.squareThen(0, 1), 21);
        leaves(DAY_999 + "t0;p39114;", "ahead of DAY 1001", x -> x.squareThen(0, 1), 14);
        leaves(DAY_999 + "t0;p39114;", "on DAY 1001", x -> x.squareThen(0, 2), 9);
        leaves(DAY_999 + "t1;p39130;", "ahead of DAY 1056", x -> x.squareThen(0, 56), 20);
        leaves(DAY_999 + "t1;p39130;", "on DAY 1056", x -> x.squareThen(0, 57), 15);
        leaves(DAY_999 + "p00002;t0;", "on DAY 1059", x -> x.squareThen(0, 60), 32);
        sentence(10, "SQUARE n DAYS on; -4 TAKEN. -1.");
        pieceBounds("squareThen(p, 0)", (x, p) -> x.squareThen(p, 0));
        pieceBounds("squareThen(p, 60)", (x, p) -> x.squareThen(p, 60));
        leaves(BISHOP_OF_66 + "d06;", "squareThen(1, 60)", x -> x.squareThen(1, 60), -4);
        leaves("p00002;x0;", "squareThen(0, 0)", x -> x.squareThen(0, 0), -4);
        leaves("p00002;x0;", "squareThen(0, 60)", x -> x.squareThen(0, 60), -4);
    }

    static void then() {
        sentence(11, "n DAYS on: THERE (what 0, bits), THOUGHT (1), WORTH of white (2), of black (3). -1.");
        for (int what = 0; what < 4; what++) {
            int asked = what;
            bounds("p00002;", "then(n, " + what + ")", 0, 60, (x, n) -> x.then(n, asked));
        }
        bounds("p00002;", "then(0, what)", 0, 3, (x, what) -> x.then(0, what));
        bounds("p00002;", "then(60, what)", 0, 3, (x, what) -> x.then(60, what));
        leaves("", "nobody is THERE", x -> x.then(60, 0), 0);
        leaves("", "no WORTH of white", x -> x.then(60, 2), 0);
        leaves("", "no WORTH of black", x -> x.then(60, 3), 0);
        leaves(TEN_QUEENS, "all ten", x -> x.then(60, 0), 1023);
        leaves(TEN_QUEENS, "WORTH", x -> x.then(60, 2), 90);
        leaves(TEN_BLACK_QUEENS, "WORTH", x -> x.then(0, 3), 90);
        leaves(TEN + "x0;", "all but one", x -> x.then(0, 0), 1022);
        leaves(TEN + "x9;", "all but one", x -> x.then(0, 0), 511);
        leaves(BISHOP_OF_66 + "d06;", "THERE behind 59", x -> x.then(59, 0), 7);
        leaves(BISHOP_OF_66 + "d06;", "THERE behind 60", x -> x.then(60, 0), 5);
        leaves(BISHOP_OF_66 + "d06;", "WORTH of white behind 59", x -> x.then(59, 2), 10);
        leaves(BISHOP_OF_66 + "d06;", "WORTH of white behind 60", x -> x.then(60, 2), 1);
        leaves(BISHOP_OF_66 + "d06;", "WORTH of black behind 60", x -> x.then(60, 3), 4);
        leaves("p20002;p40132;p00135;", "WORTH of black behind 0", x -> x.then(0, 3), 10);
        leaves("p20002;p40132;p00135;", "WORTH of black behind 1", x -> x.then(1, 3), 1);
        leaves(BISHOP_OF_66 + "d06;", "THOUGHT behind 0", x -> x.then(0, 1), 6);
        leaves(BISHOP_OF_66 + "d06;", "THOUGHT behind 60", x -> x.then(60, 1), 63);
        sentence(11, "(DAY may pass 999 there)");
        leaves(DAY_999, "THOUGHT behind 60", x -> x.then(60, 1), 1059);
        leaves(DAY_999, "THOUGHT behind 1", x -> x.then(1, 1), 1000);
    }

    static void falls() {
        sentence(12, "FALLS: behind how many DAYS (0 .. 60) one is TAKEN first; -4;");
        leaves("p20002;p00132;", "behind 1", x -> x.falls(1), 1);
        leaves("p20002;p00132;t1;", "behind 2", x -> x.falls(1), 2);
        leaves(BISHOP_OF_66 + "d07;", "behind 59", x -> x.falls(1), 59);
        leaves(BISHOP_OF_66 + "d06;", "behind 60", x -> x.falls(1), 60);
        leaves(BISHOP_OF_66 + "d05;", "behind 61", x -> x.falls(1), -4);
        leaves(BISHOP_OF_66 + "d06;", "never", x -> x.falls(0), -4);
        leaves("p00002;", "never", x -> x.falls(0), -4);
        leaves(FROM_AFAR, "with EARS from afar", x -> x.falls(3), 1);
        sentence(12, "FALLS of one TAKEN already: 0.");
        leaves("p00002;x0;", "falls(0)", x -> x.falls(0), 0);
        leaves(TEN + "x9;", "falls(9)", x -> x.falls(9), 0);
        sentence(12, "FIRST: who of those THERE, of several the least; -4.");
        leaves("p20002;p00132;", "falls(-1)", x -> x.falls(-1), 1);
        leaves("p00132;p20002;", "falls(-1)", x -> x.falls(-1), 0);
        leaves(BISHOP_OF_66 + "d06;", "behind 60", x -> x.falls(-1), 1);
        leaves(BISHOP_OF_66 + "d05;", "behind 61", x -> x.falls(-1), -4);
        leaves("p22002;p00132;p00133;p22003;", "the first of two", x -> x.falls(-1), 1);
        leaves("p22003;p00132;p00133;p22002;", "the first of two, the greater", x -> x.falls(-1), 2);
        leaves("p00002;p20003;p00133;x0;", "not one TAKEN already", x -> x.falls(-1), 2);
        leaves(FROM_AFAR, "with EARS from afar", x -> x.falls(-1), 3);
        leaves("p00002;x0;", "nobody", x -> x.falls(-1), -4);
        leaves("", "nobody", x -> x.falls(-1), -4);
        sentence(12, "(DAY may pass 999 there)");
        leaves(DAY_999 + "t0;p38014;p50121;", "on DAY 1000", x -> x.falls(1), 1);
        leaves(DAY_999 + "t0;p38014;p50121;", "on DAY 1000", x -> x.falls(-1), 1);
        sentence(12, "FALLS (-4); FIRST (p -1; -4). -1 (p below -1, too).");
        bounds("p00002;p00003;", "falls", -1, 1, (x, p) -> x.falls(p));
        bounds(TEN, "falls", -1, 9, (x, p) -> x.falls(p));
        leaves("", "falls(0) of none", x -> x.falls(0), -1);
        leaves("", "falls(-2) of none", x -> x.falls(-2), -1);
    }

    static void still() {
        sentence(13, "STILL: the least n (0 .. 40) with all as on the BOARD behind n and 1 .. 20 more DAYS; -4.");
        leaves("", "of nobody", x -> x.still(), 0);
        leaves("p00032;", "of one who never goes", x -> x.still(), 0);
        leaves("p00026;", "of one who goes on DAY 1", x -> x.still(), 1);
        leaves("p00026;t1;", "of one who goes on DAY 2", x -> x.still(), 2);
        leaves("p00002;", "of one who goes on DAY 9", x -> x.still(), 9);
        // White's BISHOP with FIGURE 9 goes on DAYS 11, 33, 55: 21 DAYS between are still.
        leaves("p39000;d11;", "the next DAY is 22 off", x -> x.still(), 0);
        leaves("p39000;d12;", "the next DAY is 21 off", x -> x.still(), 0);
        leaves("p39000;d13;", "the next DAY is 20 off", x -> x.still(), 20);
        leaves("p39000;d14;", "the next DAY is 19 off", x -> x.still(), 19);
        // With FIGURE 7 it goes on DAYS 9, 27, 45, and then stands in the last row.
        leaves("p37012;d06;", "the last DAY is 39 off", x -> x.still(), 39);
        leaves("p37012;d05;", "the last DAY is 40 off", x -> x.still(), 40);
        leaves("p37012;d04;", "the last DAY is 41 off", x -> x.still(), -4);
        leaves(FROM_AFAR, "of one who goes by EARS from afar", x -> x.still(), 1);
        sentence(13, "(DAY may pass 999 there)");
        leaves(DAY_999, "of nobody", x -> x.still(), 0);
        leaves(DAY_999 + "t0;p38024;", "of one who goes on DAY 1000", x -> x.still(), 1);
        leaves(DAY_999 + "t0;p37012;", "of one who goes behind DAY 999", x -> x.still(), -4);
        sentence(13, "STILL: SQUARES alone count.");
        leaves("p00032;d60;", "THOUGHT, DAY and TURN go on", x -> x.still(), 0);
        leaves("p00032;x0;", "of one TAKEN", x -> x.still(), 0);
    }

    static void next() {
        sentence(14, "NEXT: on the next DAY: which one goes (-4), where to (-4), by how many it is HEARD (0 nobody goes).");
        next("", -4, -4, 0);
        next("p00032;", -4, -4, 0);
        next("p00002;", 0, 8, 1);
        next("p00002;t1;", -4, -4, 0);
        next("p00002;x0;", -4, -4, 0);
        next("p00002;p00003;", 0, 8, 2);
        next("p00100;p00003;", 1, 9, 1);
        next("p60003;p60005;", -4, -4, 0);
        next("p29000;p60004;", 1, 34, 2);
        next("p60000;p60001;p60002;p60003;p60004;p60005;p60006;p60007;p60008;p50031;", -4, -4, 0);
        next("p50000;p50001;p50002;p50003;p50004;p50005;p50006;p50007;p50008;p00009;", 9, 15, 10);
        next("p20106;p00000;t1;", 0, 0, 1);
        next(DAY_999 + "p38014;t0;", 0, 21, 1);
        sentence(14, "NEXT: which (what 0; -4), where to (1; -4), by how many (2). -1.");
        bounds("p00002;", "next", 0, 2, (x, what) -> x.next(what));
        bounds("", "next of nobody", 0, 2, (x, what) -> x.next(what));
    }

    static void next(String text, int who, int whereTo, int heardBy) {
        leaves(text, "who", x -> x.next(0), who);
        leaves(text, "where to", x -> x.next(1), whereTo);
        leaves(text, "by how many", x -> x.next(2), heardBy);
    }

    // ---- promises 15 to 21: who hears, where to stand

    static void heard() {
        sentence(15, "HEARD is an IDEA by its PIECE and each other one of its SIDE THERE,"
                + " FAR from it no more than what its (the hearer's) EARS are.");
        sentence(15, "FAR: the greater of rows and columns between two.");
        int[][] earsByFigure = {{2, 2}, {3, 3}, {0, 1}, {4, 4}, {3, 4}, {5, 5}, {0, 0}, {4, 4}};
        for (int kind = 0; kind < 8; kind++) {
            for (int figure = 0; figure < 2; figure++) {
                for (int square = 1; square < 36; square++) {
                    int far = Math.max(square / 6, square % 6);
                    String text = "p50000;p" + kind + figure + "0" + twoDigits(square) + ";";
                    ask(text, "heard(0)", x -> x.heard(0), far <= earsByFigure[kind][figure] ? 3 : 1);
                }
            }
        }
        ask("p50035;p24000;", "a ROOK with 4", x -> x.heard(0), 1);
        ask("p50035;p25000;", "a ROOK with 5", x -> x.heard(0), 3);
        ask("p50030;p24005;", "a ROOK with 4", x -> x.heard(0), 1);
        ask("p50030;p25005;", "a ROOK with 5", x -> x.heard(0), 3);
        ask("p50005;p00006;", "not round the edge", x -> x.heard(0), 1);
        sentence(15, "HEARD of one: who would hear its IDEA (bits, itself too; had it one or not).");
        leaves("p00032;p00026;", "it has none", x -> x.heard(0), 3);
        leaves("p00000;p00102;p00001;", "not the other SIDE", x -> x.heard(0), 5);
        leaves("p00000;p00002;p00001;x1;", "not one TAKEN", x -> x.heard(0), 5);
        leaves("p50000;p50001;p50002;p50003;p50004;p50005;p50006;p50007;p50008;p60035;", "ten", x -> x.heard(9), 1023);
        leaves("p60000;p60001;p60002;p60003;p60004;p60005;p60006;p60007;p60008;p50035;", "one", x -> x.heard(9), 512);
        sentence(15, "A PIECE hears its own IDEA, a DEAF one too.");
        leaves("p60014;", "heard(0)", x -> x.heard(0), 1);
        leaves("p20014;", "heard(0)", x -> x.heard(0), 1);
        leaves("p60014;p60015;", "heard(1)", x -> x.heard(1), 2);
        sentence(15, "HEARD (bits). -1, -3 TAKEN.");
        pieceBounds("heard", (x, p) -> x.heard(p));
        leaves("p00014;p00015;x0;", "TAKEN", x -> x.heard(0), -3);
        leaves(TEN + "x9;", "TAKEN", x -> x.heard(9), -3);
    }

    static void danger() {
        sentence(16, "DANGER: PIECES (bits) of a SIDE on SQUARES that are IDEAS of the other SIDE's on the next DAY,"
                + " whoever's TURN it is.");
        bounds("p20002;p00132;", "danger", 0, 1, (x, side) -> x.danger(side));
        bounds("", "danger of nobody", 0, 1, (x, side) -> x.danger(side));
        leaves("", "danger(0)", x -> x.danger(0), 0);
        leaves("", "danger(1)", x -> x.danger(1), 0);
        leaves("p20002;p00132;", "danger(1)", x -> x.danger(1), 2);
        leaves("p20002;p00132;t1;", "danger(1)", x -> x.danger(1), 2);
        leaves("p20002;p00132;", "danger(0)", x -> x.danger(0), 0);
        leaves("p20000;p20130;", "danger(0) on 0", x -> x.danger(0), 1);
        leaves("p20005;p20135;", "danger(1) on 35", x -> x.danger(1), 2);
        leaves("p20002;p00132;x1;", "of one TAKEN", x -> x.danger(1), 0);
        leaves("p20002;p00132;x0;", "by one TAKEN", x -> x.danger(1), 0);
        leaves("p20002;p00032;", "of its own", x -> x.danger(0), 0);
        leaves("p20000;p20001;p20002;p20003;p20004;p20130;p20131;p20132;p20133;p20134;", "all five",
                x -> x.danger(0), 31);
        leaves("p20000;p20001;p20002;p20003;p20004;p20130;p20131;p20132;p20133;p20134;", "all five",
                x -> x.danger(1), 992);
        leaves("p60002;p60033;p60029;p00132;", "no more than half hear it", x -> x.danger(1), 8);
        leaves(DAY_999 + "p38014;p00121;", "on DAY 1000", x -> x.danger(1), 2);
        leaves(DAY_999 + "p39014;p00121;", "not on DAY 1000", x -> x.danger(1), 0);
    }

    static void stand() {
        sentence(17, "STAND: the free SQUARE (its own, too) for one by which WORTH of its SIDE less the other's is most"
                + " behind n DAYS (0 .. 20), of several the least; that difference, 100 added.");
        for (int what = 0; what < 2; what++) {
            int asked = what;
            bounds("p00014;", "stand(0, n, " + what + ")", 0, 20, (x, n) -> x.stand(0, n, asked));
        }
        // The BISHOP goes on DAY 22 alone: from 25 it takes the KING, who has no way back.
        leaves("d02;p39135;p50020;p00014;", "where, behind 20", x -> x.stand(0, 20, 0), 25);
        leaves("d02;p39135;p50020;p00014;", "difference, behind 20", x -> x.stand(0, 20, 1), 103);
        leaves("d02;p39135;p50020;p00014;", "where, behind 19", x -> x.stand(0, 19, 0), 0);
        leaves("d02;p39135;p50020;p00014;", "difference, behind 19", x -> x.stand(0, 19, 1), 94);
        leaves("p00014;", "of several the least", x -> x.stand(0, 0, 0), 0);
        leaves("p00000;", "its own, too", x -> x.stand(0, 0, 0), 0);
        leaves("p00000;p00001;", "its own is another's", x -> x.stand(1, 20, 0), 1);
        leaves("p00014;p00000;p00101;p00002;", "the least free one", x -> x.stand(0, 0, 0), 3);
        leaves("p00014;p00000;p00101;p00002;x1;", "the least free one", x -> x.stand(0, 0, 0), 0);
        // The KNIGHT goes left for want of room to the right, from 35; 33 is another's.
        leaves("t1;p10100;p00133;p40022;", "the last SQUARE", x -> x.stand(0, 1, 0), 35);
        leaves("t1;p10100;p00133;p40022;", "the last SQUARE's difference", x -> x.stand(0, 1, 1), 104);
        leaves("t1;p10100;p00132;p40022;", "the least of two SQUARES", x -> x.stand(0, 1, 0), 33);
        leaves("p00000;p40101;p40102;p40103;p40104;p40105;p40106;p40107;p40108;p40109;", "difference, the least",
                x -> x.stand(0, 0, 1), 20);
        leaves(TEN_QUEENS, "difference, the most",
                x -> x.stand(0, 20, 1), 190);
        leaves("t1;p50002;p20132;p00008;", "its own SIDE's loss, where", x -> x.stand(0, 1, 0), 0);
        leaves("t1;p50002;p20132;p00008;", "its own SIDE's loss, difference", x -> x.stand(0, 1, 1), 104);
        leaves("t1;p50002;p20132;", "its own loss, where", x -> x.stand(0, 1, 0), 0);
        leaves("t1;p50002;p20132;", "its own loss, difference", x -> x.stand(0, 1, 1), 104);
        leaves("p40000;p40101;", "difference 0", x -> x.stand(0, 0, 1), 100);
        leaves("p00100;p40001;", "black's difference", x -> x.stand(0, 0, 1), 92);
        sentence(17, "(DAY may pass 999 there)");
        leaves(DAY_999 + "t0;p38035;p50121;", "where, on DAY 1000", x -> x.stand(0, 1, 0), 14);
        leaves(DAY_999 + "t0;p38035;p50121;", "difference, on DAY 1000", x -> x.stand(0, 1, 1), 103);
        sentence(17, "STAND: where (what 0), the difference and 100 (1). -1, -3 TAKEN.");
        pieceBounds("stand(p, 0, 0)", (x, p) -> x.stand(p, 0, 0));
        pieceBounds("stand(p, 20, 1)", (x, p) -> x.stand(p, 20, 1));
        bounds("p00014;", "stand(0, 20, what)", 0, 1, (x, what) -> x.stand(0, 20, what));
        leaves("p00014;x0;", "TAKEN", x -> x.stand(0, 0, 0), -3);
        leaves(TEN + "x9;", "TAKEN", x -> x.stand(9, 20, 1), -3);
        sentence(17, "Answers of several REFUSALS are the first one as they are told at the call.");
        leaves("p00014;x0;", "-1 (n 21) and -3", x -> x.stand(0, 21, 0), -1);
        leaves("p00014;x0;", "-1 (n -1) and -3", x -> x.stand(0, -1, 0), -1);
        leaves("p00014;x0;", "-1 (what 2) and -3", x -> x.stand(0, 0, 2), -1);
        leaves("p00014;x0;", "-1 (what -1) and -3", x -> x.stand(0, 0, -1), -1);
    }


    static void off() {
        sentence(18, "OFF: whom to take off now (TAKEN) so that its own SIDE's WORTH without it is most behind n DAYS"
                + " (0 .. 30), more than as it is (it not counted in both), of several the least; -4.");
        bounds("p00020;p10026;p39130;d14;", "off", 0, 30, (x, n) -> x.off(n));
        // The BISHOP takes the PAWN on DAY 44, if the KNIGHT is in its way till then.
        leaves("p00020;p10026;p39130;d14;", "behind 30", x -> x.off(30), 1);
        leaves("p00020;p10026;p39130;d14;", "behind 29", x -> x.off(29), -4);
        leaves("p00020;p10026;p39130;d14;", "behind 0", x -> x.off(0), -4);
        leaves("p00020;p00026;p00032;p39130;d14;", "WORTH 2 without either", x -> x.off(30), 1);
        leaves("p00032;p00026;p00020;p39130;d14;", "WORTH 2 without either", x -> x.off(30), 0);
        leaves("p20035;p60034;p10001;p00002;p20131;", "WORTH 9 without 1, 8 without 0", x -> x.off(2), 1);
        leaves("p60035;p60034;p10001;p00002;p20131;", "WORTH 8 without either", x -> x.off(2), 0);
        leaves("p00020;p10026;p39130;d14;x1;", "not one TAKEN", x -> x.off(30), -4);
        leaves("p20002;p00132;", "one that is TAKEN as it is", x -> x.off(1), -4);
        leaves("p20002;p00132;p00133;", "its own WORTH does not count", x -> x.off(1), -4);
        leaves("", "nobody", x -> x.off(30), -4);
        leaves("p00002;x0;", "nobody THERE", x -> x.off(0), -4);
        leaves(TEN_QUEENS, "ten who lose nothing",
                x -> x.off(30), -4);
        sentence(18, "(DAY may pass 999 there)");
        leaves(DAY_999 + "t0;p00020;p10026;p39130;", "behind DAY 1022", x -> x.off(23), -4);
        leaves(DAY_999 + "t0;p00020;p10026;p39130;", "behind DAY 1023", x -> x.off(24), 1);
        sentence(18, "OFF; -4. -1.");
        bounds("", "off of nobody", 0, 30, (x, n) -> x.off(n));
    }

    static void ears() {
        sentence(19, "EARS: the fewest FIGURE (0 .. 9) of one (its KIND as it is) by which it hears the IDEA of a told one;"
                + " -4 (other SIDE, TAKEN, too).");
        int[] fixed = {2, 3, 0, 4, 3, 5, 0, 4};
        for (int kind = 0; kind < 8; kind++) {
            boolean grows = kind == 2 || kind == 4;
            for (int square = 1; square < 36; square++) {
                int far = Math.max(square / 6, square % 6);
                int lacks = Math.max(0, far - fixed[kind]);
                int due = lacks == 0 ? 0 : grows ? lacks : -4;
                for (int figure = 0; figure < 10; figure += 9) {
                    ask("p" + kind + figure + "000;p000" + twoDigits(square) + ";", "ears(0, 1)", x -> x.ears(0, 1), due);
                }
            }
        }
        leaves("p20034;p00035;", "1 off", x -> x.ears(0, 1), 1);
        leaves("p20135;p00105;", "black's, 5 off", x -> x.ears(0, 1), 5);
        leaves("p00014;p20112;p00016;p00115;", "black's, 3 off", x -> x.ears(1, 3), 3);
        leaves(TEN, "the last of ten", x -> x.ears(9, 8), 0);
        leaves("p20000;p00135;", "the other SIDE", x -> x.ears(0, 1), -4);
        leaves("p20000;p00101;", "the other SIDE, near", x -> x.ears(0, 1), -4);
        leaves("p20000;p00001;x0;", "TAKEN", x -> x.ears(0, 1), -4);
        leaves("p20000;p00001;x1;", "the told one TAKEN", x -> x.ears(0, 1), -4);
        leaves("p20000;p00001;x0;x1;", "both TAKEN", x -> x.ears(0, 1), -4);
        leaves("p20000;p00032;", "the told one has no IDEA", x -> x.ears(0, 1), 5);
        sentence(19, "EARS; -4. -1 (one twice).");
        pieceBounds("ears(p, other)", (x, p) -> x.ears(p, p == 0 ? 1 : 0));
        pieceBounds("ears(other, p)", (x, p) -> x.ears(p == 0 ? 1 : 0, p));
        leaves(TEN, "one twice", x -> x.ears(0, 0), -1);
        leaves(TEN, "one twice", x -> x.ears(9, 9), -1);
        leaves(TEN + "x9;", "one twice, TAKEN", x -> x.ears(9, 9), -1);
        leaves(TEN + "x9;", "-1 (other 10) of one TAKEN", x -> x.ears(9, 10), -1);
    }

    static void side() {
        sentence(20, "GROUPS: into how many those THERE of a SIDE fall, if who hears one or is heard by it is of its group,"
                + " and so on.");
        String tenDeaf = "p60000;p60001;p60002;p60003;p60004;p60005;p60006;p60007;p60008;p60009;";
        String tenKings = "p50100;p50101;p50102;p50103;p50104;p50105;p50106;p50107;p50108;p50135;";
        leaves("", "of nobody", x -> x.side(0, 0), 0);
        leaves("p00000;x0;", "of one TAKEN", x -> x.side(0, 0), 0);
        leaves("p00000;", "of one", x -> x.side(0, 0), 1);
        leaves(tenDeaf, "ten alone", x -> x.side(0, 0), 10);
        leaves(tenKings, "ten together", x -> x.side(1, 0), 1);
        leaves("p00000;p00002;", "2 off", x -> x.side(0, 0), 1);
        leaves("p00000;p00003;", "3 off", x -> x.side(0, 0), 2);
        leaves("p00000;p10003;", "one hears, the other does not", x -> x.side(0, 0), 1);
        leaves("p10000;p00003;", "one hears, the other does not", x -> x.side(0, 0), 1);
        leaves("p10000;p10004;", "4 off", x -> x.side(0, 0), 2);
        leaves("p00000;p00004;p00002;", "by one between", x -> x.side(0, 0), 1);
        leaves("p00000;p00004;p00002;x2;", "by one TAKEN", x -> x.side(0, 0), 2);
        leaves("p00000;p00004;p00102;", "by one of the other SIDE", x -> x.side(0, 0), 2);
        leaves("p60000;p60035;p50014;", "by a KING", x -> x.side(0, 0), 1);
        leaves("p00135;p60000;p50001;", "by a KING, the first is of the other SIDE", x -> x.side(0, 0), 1);
        leaves("p00135;p50001;p60000;", "by a KING, the first is of the other SIDE", x -> x.side(0, 0), 1);
        leaves("p00035;x0;p60100;p60105;p50114;", "by a KING, the first is TAKEN", x -> x.side(1, 0), 1);
        String chain = "p21000;p21035;p21001;p21034;p21002;p21033;p21003;p21032;p21004;p21031;";
        leaves(chain, "two chains of five", x -> x.side(0, 0), 2);
        leaves("p21000;p21001;p21002;p21003;p21004;p21005;p21011;p21017;p21023;p21029;", "a chain of ten",
                x -> x.side(0, 0), 1);
        leaves("p21000;p21029;p21001;p21023;p21002;p21017;p21003;p21011;p21004;p21005;", "a chain of ten, unlike numbers",
                x -> x.side(0, 0), 1);
        sentence(20, "WORTH of a SIDE.");
        leaves("", "of nobody", x -> x.side(1, 1), 0);
        leaves(tenKings, "of ten", x -> x.side(1, 1), 90);
        leaves(tenKings, "of the other SIDE", x -> x.side(0, 1), 0);
        leaves(tenKings + "x9;", "of nine", x -> x.side(1, 1), 81);
        sentence(20, "FARTHEST of a SIDE FORWARD, of several the least; -4.");
        leaves("", "of nobody", x -> x.side(0, 2), -4);
        leaves("p00135;", "of the other SIDE alone", x -> x.side(0, 2), -4);
        leaves("p00000;x0;", "of one TAKEN", x -> x.side(0, 2), -4);
        leaves("p00000;", "on row 0", x -> x.side(0, 2), 0);
        leaves("p00135;", "on row 5, black's", x -> x.side(1, 2), 0);
        leaves("p00000;p00005;p00006;p00107;p00135;", "white's", x -> x.side(0, 2), 2);
        leaves("p00000;p00005;p00006;p00107;p00112;", "black's", x -> x.side(1, 2), 3);
        leaves("p00030;p00035;", "of two the least", x -> x.side(0, 2), 0);
        leaves("p00105;p00100;", "of two the least", x -> x.side(1, 2), 0);
        leaves("p00030;p00035;x0;", "of those THERE", x -> x.side(0, 2), 1);
        sentence(20, "Of a SIDE: GROUPS (what 0), WORTH (1), FARTHEST (2; -4), how many are THERE (3). -1.");
        leaves("", "THERE of nobody", x -> x.side(0, 3), 0);
        leaves(tenDeaf, "THERE of ten", x -> x.side(0, 3), 10);
        leaves(tenDeaf, "THERE of the other SIDE", x -> x.side(1, 3), 0);
        leaves(tenDeaf + "x9;", "THERE of nine", x -> x.side(0, 3), 9);
        for (int what = 0; what < 4; what++) {
            int asked = what;
            bounds(TEN, "side(side, " + what + ")", 0, 1, (x, side) -> x.side(side, asked));
        }
        bounds(TEN, "side(0, what)", 0, 3, (x, what) -> x.side(0, what));
        bounds(TEN, "side(1, what)", 0, 3, (x, what) -> x.side(1, what));
    }

    static void free() {
        sentence(21, "FREE: how many SQUARES are.");
        leaves("", "of nobody", x -> x.free(0), 36);
        leaves(TEN, "of ten", x -> x.free(0), 26);
        leaves(TEN + "x0;x9;", "of eight", x -> x.free(0), 28);
        sentence(21, "PAIRS: how many twos of unlike SIDES are FAR 1.");
        leaves("", "of nobody", x -> x.free(1), 0);
        leaves("p00014;p00015;", "of one SIDE", x -> x.free(1), 0);
        for (int square = 0; square < 36; square++) {
            int far = Math.max(Math.abs(square / 6 - 2), Math.abs(square % 6 - 2));
            if (square != 14) {
                ask("p00014;p001" + twoDigits(square) + ";", "PAIRS", x -> x.free(1), far == 1 ? 1 : 0);
                ask("p00114;p000" + twoDigits(square) + ";", "PAIRS", x -> x.free(1), far == 1 ? 1 : 0);
            }
        }
        leaves("p00005;p00106;", "not round the edge", x -> x.free(1), 0);
        leaves("p00014;p00115;x1;", "with one TAKEN", x -> x.free(1), 0);
        leaves("p00001;p00003;p00007;p00009;p00013;p00102;p00108;p00114;p00115;p00119;", "of ten", x -> x.free(1), 14);
        sentence(21, "QUIET: PIECES (bits) THERE without an IDEA on the next DAY.");
        leaves("", "of nobody", x -> x.free(2), 0);
        leaves("p00030;p00131;p00032;p00133;p00034;p00135;", "of black and white", x -> x.free(2), 21);
        leaves("p00014;p00130;x0;", "not one TAKEN", x -> x.free(2), 0);
        leaves("p00030;p00035;x0;", "not one TAKEN", x -> x.free(2), 2);
        leaves(DAY_999 + "p38014;p39015;", "on DAY 1000", x -> x.free(2), 2);
        leaves("p50000;p50001;p50002;p50003;p50004;p50005;p50006;p50007;p50008;p50009;", "of ten", x -> x.free(2), 1023);
        sentence(21, "QUIET are those of both SIDES.");
        leaves("p00030;p00100;", "free(2)", x -> x.free(2), 3);
        leaves("p00030;p00100;t1;", "free(2)", x -> x.free(2), 3);
        sentence(21, "FREE (what 0), PAIRS (1), QUIET (2, bits). -1.");
        bounds(TEN, "free", 0, 2, (x, what) -> x.free(what));
    }

    // ---- promises 22 to 26: what kind one is, where it came from

    /** Where a BISHOP with FIGURE 9 is behind 0 .. 99 DAYS, that goes from 0 on DAYS 11, 33, 55, 77, 99. */
    static int[] bishopFrom0() {
        int[] squares = new int[100];
        for (int i = 0; i < 100; i++) {
            squares[i] = 7 * ((i + 11) / 22);
        }
        return squares;
    }

    static void whatIs() {
        sentence(22, "WHAT KIND: a ROW tells SQUARE of one behind 0, 1, .. DAYS (36 TAKEN; the least number of the SORT"
                + " is skipped): KINDS (bits) of it by which all of it is so; FIGURES (bits 0 .. 9).");
        kindsAndFigures(with("p00014;", 0, 14), 255, 1023);
        kindsAndFigures(with("p00014;", 0, 15), 0, 0);
        kindsAndFigures(with("p00014;", 0, 14, 20), 1, 1023);
        kindsAndFigures(with("p00014;", 0, 14, 20, 20), 1, 1023);
        kindsAndFigures(with("p00014;", 0, 14, 20, 21), 0, 0);
        kindsAndFigures(with("p00014;", 0, 14, 32), 4 + 16 + 64, 0);
        kindsAndFigures(with("p70014;", 0, 14, 13), 128, 1023);
        kindsAndFigures(with("d01;p35014;t0;", 0, 14, 21), 0, 1);
        kindsAndFigures(with("d10;p39014;t0;", 0, 14, 21), 8, 512);
        kindsAndFigures(with("p39000;", 0, bishopFrom0()), 8, 512);
        int[] lastWrong = bishopFrom0();
        lastWrong[99] = 28;
        kindsAndFigures(with("p39000;", 0, lastWrong), 0, 0);
        kindsAndFigures(with("p00014;x0;", 0, times(100, 36)), 255, 1023);
        kindsAndFigures(with("p00014;x0;", 0, 14), 0, 0);
        kindsAndFigures(with("p00014;x0;", 0, -4), 0, 0);
        kindsAndFigures(with("p00014;p20002;p20132;t1;", 0, 14, 36), 255, 1023);
        kindsAndFigures(with("p00014;p20002;p20132;t1;", 0, 14, 14), 0, 0);
        kindsAndFigures(with("p00132;p20002;", 0, 32, 36), 255, 1023);
        kindsAndFigures(with("p00132;p20002;", 0, 36, 36), 0, 0);
        leaves(with(FROM_AFAR, 0, 2, 32), "KINDS, with EARS from afar", x -> x.whatIs(1, 0, 0), 4 + 16 + 64);
        leaves(with(FROM_AFAR, 0, 32, 36), "KINDS of one who is TAKEN by them", x -> x.whatIs(1, 3, 0), 255);
        sentence(22, "(DAY may pass 999 there)");
        kindsAndFigures(with(DAY_999 + "t0;p38014;", 0, 14, 21), 8, 1 + 4 + 8 + 64 + 256);
        leastIsSkipped();
        whatIsRefuses();
    }

    static void leastIsSkipped() {
        sentence(22, "An empty ROW leaves all KINDS and FIGURES; a skipped element's DAY goes by.");
        for (int sort = 0; sort < 3; sort++) {
            int least = new int[] {-128, -32768, LEAST}[sort];
            kindsAndFigures(with("p00014;", sort), 255, 1023);
            kindsAndFigures(with("p00014;", sort, least), 255, 1023);
            kindsAndFigures(with("p00014;", sort, least + 1), 0, 0);
            kindsAndFigures(with("p00014;", sort, -1), 0, 0);
            kindsAndFigures(with("p00014;", sort, least, 20), 1, 1023);
            kindsAndFigures(with("p00014;", sort, least, least, 20), 1, 1023);
            kindsAndFigures(with("p00014;", sort, least, 14), 8 + 32, 0);
            kindsAndFigures(with("p00014;", sort, times(100, least)), 255, 1023);
            kindsAndFigures(with("p00014;", sort, and(times(99, least), 32)), 1 + 4 + 64, 1023);
        }
        kindsAndFigures(with("p00014;", 1, -128), 0, 0);
        kindsAndFigures(with("p00014;", 2, -32768), 0, 0);
        kindsAndFigures(with("p00014;", 2, -128), 0, 0);
        sentence(22, "what is put in keeps its lowest bits");
        kindsAndFigures(with("p00014;", 0, 128), 255, 1023);
        kindsAndFigures(with("p00014;", 0, 256 + 14), 255, 1023);
        kindsAndFigures(with("p00014;", 1, 128), 0, 0);
        kindsAndFigures(with("p00014;", 1, 256 + 14), 0, 0);
        kindsAndFigures(with("p00014;", 1, 32768), 255, 1023);
        kindsAndFigures(with("p00014;", 1, 65536 + 14), 255, 1023);
        kindsAndFigures(with("p00014;", 2, 32768), 0, 0);
        kindsAndFigures(with("p00014;", 2, 65536 + 14), 0, 0);
    }

    static void kindsAndFigures(Made made, long kinds, long figures) {
        leaves(made, "KINDS", x -> x.whatIs(1, 0, 0), kinds);
        leaves(made, "FIGURES", x -> x.whatIs(1, 0, 1), figures);
    }

    static void whatIsRefuses() {
        sentence(22, "WHAT KIND by the ROW in SHELF d: KINDS (what 0), FIGURES (1), bits. -1, -11, -12 (no ROW).");
        shelfRefusals("whatIs(d, 0, 0)", true, (x, d) -> x.whatIs(d, 0, 0));
        shelfRefusals("whatIs(d, 1, 1)", true, (x, d) -> x.whatIs(d, 1, 1));
        bounds(with(TEN, 0, 0), "whatIs(1, p, 0)", 0, 9, (x, p) -> x.whatIs(1, p, 0), -1);
        bounds(with(TEN, 0, 0), "whatIs(1, p, 1)", 0, 9, (x, p) -> x.whatIs(1, p, 1), -1);
        bounds(with("p00014;", 0, 14), "whatIs(1, p, 0) of one", 0, 0, (x, p) -> x.whatIs(1, p, 0), -1);
        bounds(with(TEN, 0, 0), "whatIs(1, 0, what)", 0, 1, (x, what) -> x.whatIs(1, 0, what), -1);
        sentence(22, "Answers of several REFUSALS are the first one as they are told at the call.");
        leaves(heldBoth(), "-1 (p) and -11", x -> x.whatIs(3, 2, 0), -1);
        leaves(heldBoth(), "-1 (what) and -11", x -> x.whatIs(3, 0, 2), -1);
        leaves(heldBoth(), "-1 (p) and -12", x -> x.whatIs(2, -1, 0), -1);
        leaves(heldBoth(), "-1 (what) and -12", x -> x.whatIs(2, 0, -1), -1);
    }

    static void whereFrom() {
        sentence(23, "WHERE FROM: a ROW tells likewise, behind 1, 2, .. DAYS: how many of the SQUARES that are free"
                + " (or its own) could be where it stands now so that all of it is so; the least; the greatest; -4.");
        squares(with("p00014;", 0, 20), 1, 14, 14);
        squares(with("p00014;", 0, 32), 2, 26, 32);
        squares(with("p00014;", 0, 35), 2, 29, 35);
        squares(with("p00114;t1;", 0, 0), 2, 0, 6);
        squares(with("p00014;", 0, 2), 0, -4, -4);
        squares(with("p00014;", 0, 36), 0, -4, -4);
        squares(with("p00014;", 0, 20, 20), 1, 14, 14);
        squares(with("p00014;", 0, 20, 26), 0, -4, -4);
        squares(with("p00014;", 0, 20, 20, 26), 1, 14, 14);
        squares(with("p00014;p50020;t1;", 0, 20), 0, -4, -4);
        squares(with("p00014;p50020;x1;t1;", 0, 20), 1, 20, 20);
        squares(with("p50014;", 0), 36, 0, 35);
        squares(with("p50014;p00100;p00035;", 0), 34, 1, 34);
        squares(with("p50000;p50135;", 0), 35, 0, 34);
        squares(with("p00114;p20002;", 0, 36), 5, 8, 32);
        squares(with("p50014;p00000;p00001;p00002;p00003;p00004;p00005;p00006;p00007;p00008;", 0), 27, 9, 35);
        squares(with("p00014;", 0, -128, -128, 20), 1, 8, 8);
        squares(with("p00014;", 1, -32768, -32768, 20), 1, 8, 8);
        squares(with("p00014;", 2, LEAST, LEAST, 20), 1, 8, 8);
        squares(with("p00014;", 0, -127), 0, -4, -4);
        squares(with("p00014;", 1, -128), 0, -4, -4);
        squares(with("p00014;", 2, -32768), 0, -4, -4);
        squares(with("p00014;", 0, 256 + 20), 1, 14, 14);
        squares(with("p00014;", 1, 256 + 20), 0, -4, -4);
        squares(with("p00014;", 0, and(times(99, -128), 32)), 6, 2, 32);
        squares(with("d10;p39100;", 0, blackBishopFromDay10()), 1, 30, 30);
        int[] lastWrong = blackBishopFromDay10();
        lastWrong[99] = 10;
        squares(with("d10;p39100;", 0, lastWrong), 0, -4, -4);
        sentence(23, "(DAY may pass 999 there)");
        squares(with(DAY_999 + "t0;p38014;", 0, 21), 1, 14, 14);
        whereFromRefuses();
    }

    /** Where black's BISHOP with FIGURE 9 is behind 1 .. 100 DAYS from DAY 10, that goes from 30 each 22 DAYS. */
    static int[] blackBishopFromDay10() {
        int[] squares = new int[100];
        for (int i = 0; i < 100; i++) {
            squares[i] = 30 - 5 * ((11 + i) / 22);
        }
        return squares;
    }

    static void squares(Made made, long number, long least, long greatest) {
        leaves(made, "how many", x -> x.whereFrom(1, 0, 0), number);
        leaves(made, "the least", x -> x.whereFrom(1, 0, 1), least);
        leaves(made, "the greatest", x -> x.whereFrom(1, 0, 2), greatest);
    }

    static void whereFromRefuses() {
        sentence(23, "WHERE FROM by the ROW in SHELF d: how many (what 0), the least (1; -4), the greatest (2; -4)."
                + " -1, -3 TAKEN, -11, -12.");
        for (int what = 0; what < 3; what++) {
            int asked = what;
            shelfRefusals("whereFrom(d, 0, " + what + ")", true, (x, d) -> x.whereFrom(d, 0, asked));
            bounds(with(TEN, 0), "whereFrom(1, p, " + what + ")", 0, 9, (x, p) -> x.whereFrom(1, p, asked), -1);
        }
        bounds(with(TEN, 0), "whereFrom(1, 0, what)", 0, 2, (x, what) -> x.whereFrom(1, 0, what), -1);
        leaves(with("p00014;x0;", 0, 36), "TAKEN", x -> x.whereFrom(1, 0, 0), -3);
        leaves(with(TEN + "x9;", 0), "TAKEN", x -> x.whereFrom(1, 9, 2), -3);
        Made taken = () -> {
            Game x = heldBoth().make();
            x.takes(1);
            return x;
        };
        sentence(23, "Answers of several REFUSALS are the first one as they are told at the call.");
        leaves(taken, "-1 (what) and -3", x -> x.whereFrom(1, 1, 3), -1);
        leaves(taken, "-1 (what) and -11", x -> x.whereFrom(3, 0, -1), -1);
        leaves(taken, "-1 (what) and -12", x -> x.whereFrom(2, 0, 3), -1);
        leaves(taken, "-1 (p) and -11", x -> x.whereFrom(3, 2, 0), -1);
        leaves(taken, "-1 (p) and -12", x -> x.whereFrom(2, -1, 0), -1);
        leaves(taken, "-1 (d) and -3", x -> x.whereFrom(8, 1, 0), -1);
        leaves(taken, "-3 and -11", x -> x.whereFrom(3, 1, 0), -3);
        leaves(taken, "-3 and -12", x -> x.whereFrom(2, 1, 0), -3);
    }

    static void pairs() {
        sentence(24, "TWO PIECES THERE, each has IDEAS as ever (1) or none (0) in the next n DAYS (1 .. 30):"
                + " each has WORTH of its SIDE behind these, less 5, if it is TAKEN then: the first pair"
                + " (10 the one's and the other's) by which neither has more by another choice alone; -4.");
        bounds("p00002;p00003;", "two(0, 1, n)", 1, 30, (x, n) -> x.two(0, 1, n));
        // The BISHOP takes the PAWN on DAY 44, if that one has not gone.
        leaves("d14;p00020;p00034;p39130;", "behind 30", x -> x.two(0, 1, 30), 10);
        leaves("d14;p00020;p00034;p39130;", "behind 30", x -> x.two(1, 0, 30), 1);
        leaves("d14;p00020;p00034;p39130;", "behind 29", x -> x.two(0, 1, 29), 0);
        leaves("d14;p00020;p00034;p39130;", "behind 29", x -> x.two(1, 0, 29), 0);
        leaves("d14;p00034;p39130;p00020;", "behind 30, of other numbers", x -> x.two(2, 0, 30), 10);
        leaves("d14;p00034;p39130;p00020;", "behind 30, of other numbers", x -> x.two(0, 2, 30), 1);
        leaves("d14;p39130;p00034;p00020;", "behind 30, of other numbers", x -> x.two(2, 1, 30), 10);
        leaves("d14;p39130;p00034;p00020;", "behind 29, of other numbers", x -> x.two(2, 1, 29), 0);
        leaves("p00002;p00003;", "nothing to be had", x -> x.two(0, 1, 1), 0);
        leaves("p20002;p20132;", "who takes has nothing of it", x -> x.two(0, 1, 1), 0);
        // The ROOK goes when the PAWN hears it, be that one's IDEAS none; the KNIGHT does well to go ahead of it.
        leaves("p10001;p00132;p20131;", "behind 2", x -> x.two(0, 1, 2), 10);
        leaves("p10001;p00132;p20131;", "behind 2", x -> x.two(1, 0, 2), 1);
        leaves("p10001;p00132;p20131;", "behind 1", x -> x.two(0, 1, 1), 0);
        leaves("p51026;p60114;p42132;p42002;", "both", x -> x.two(0, 1, 3), 11);
        leaves("p41131;p61006;p22013;p71001;p41125;", "no pair", x -> x.two(0, 1, 3), -4);
        leaves("p25002;p42020;p62110;p30107;p31119;p44004;", "5, not 4", x -> x.two(0, 1, 2), 10);
        leaves("p03002;p20003;p71026;p43100;p75027;", "5, not 4", x -> x.two(0, 1, 2), 1);
        leaves("p50020;p12008;p73012;p55003;p40127;p23025;", "5, not 6", x -> x.two(0, 1, 2), 1);
        leaves("p15116;p60134;p40133;p14031;p43026;", "5, not 6", x -> x.two(0, 1, 5), 0);
        sentence(24, "(DAY may pass 999 there)");
        leaves(DAY_999 + "t0;p00014;p50035;p39124;", "behind DAY 1022", x -> x.two(0, 1, 23), 0);
        leaves(DAY_999 + "t0;p00014;p50035;p39124;", "behind DAY 1023", x -> x.two(0, 1, 24), 10);
        sentence(24, "TWO; -4. -1 (one twice), -3 either is TAKEN.");
        pieceBounds("two(p, other, 1)", (x, p) -> x.two(p, p == 0 ? 1 : 0, 1));
        pieceBounds("two(other, p, 30)", (x, p) -> x.two(p == 0 ? 1 : 0, p, 30));
        leaves(TEN, "one twice", x -> x.two(0, 0, 1), -1);
        leaves(TEN, "one twice", x -> x.two(9, 9, 30), -1);
        leaves("p00002;p00003;x0;", "the one is TAKEN", x -> x.two(0, 1, 1), -3);
        leaves("p00002;p00003;x1;", "the other is TAKEN", x -> x.two(0, 1, 1), -3);
        leaves("p00002;p00003;x0;x1;", "both are TAKEN", x -> x.two(0, 1, 30), -3);
        sentence(24, "Answers of several REFUSALS are the first one as they are told at the call.");
        leaves("p00002;p00003;x0;", "-1 (one twice) and -3", x -> x.two(0, 0, 1), -1);
        leaves("p00002;p00003;x0;", "-1 (n 0) and -3", x -> x.two(0, 1, 0), -1);
        leaves("p00002;p00003;x0;", "-1 (n 31) and -3", x -> x.two(0, 1, 31), -1);
        leaves("p00002;p00003;x0;", "-1 (other) and -3", x -> x.two(0, 2, 1), -1);
    }

    static void fraction(String text, String call, Call above, Call below, long dueAbove, long dueBelow) {
        leaves(text, call + ", above the line", above, dueAbove);
        leaves(text, call + ", below the line", below, dueBelow);
    }

    static void rain(String text, int p, int n, int t, long above, long below) {
        fraction(text, "rain(" + p + ", " + n + ", " + t + ")", x -> x.rain(p, n, t, 0), x -> x.rain(p, n, t, 1),
                above, below);
    }

    static void rain() {
        sentence(25, "RAIN: on each of n DAYS (0 .. 7), by itself, all EARS are 1 (that DAY) with odds 1 in t (2 .. 20):"
                + " how likely one is THERE behind these: a fraction in least terms.");
        // The KING is TAKEN by DEAF ones, who hear one another in rain alone, on a DAY of white's.
        String deaf = "p60003;p60002;p60004;p50133;";
        rain(deaf, 3, 0, 2, 1, 1);
        rain(deaf, 3, 1, 2, 1, 2);
        rain(deaf, 3, 1, 20, 19, 20);
        rain(deaf, 3, 2, 20, 19, 20);
        rain(deaf, 3, 3, 2, 1, 4);
        rain(deaf, 3, 6, 20, 6859, 8000);
        rain(deaf, 3, 7, 20, 130321, 160000);
        rain(deaf, 3, 7, 2, 1, 16);
        rain(deaf, 0, 7, 20, 1, 1);
        rain(deaf + "x3;", 3, 0, 2, 0, 1);
        rain(deaf + "x3;", 3, 7, 20, 0, 1);
        rain("p20002;p00132;", 1, 0, 20, 1, 1);
        rain("p20002;p00132;", 1, 1, 20, 0, 1);
        rain("p20002;p00132;", 1, 7, 20, 0, 1);
        // Those who hear from afar do not in rain: then the ROOK stays where it is.
        rain(FROM_AFAR, 3, 1, 20, 1, 20);
        rain("p20002;p50003;p50005;p00132;", 3, 1, 20, 0, 1);
        rain("p62001;p48118;p00134;p47019;", 2, 7, 20, 1279999639, 1280000000);
        rain("p40124;p47006;p22005;p78111;p41102;", 3, 7, 20, 1, 1280000000);
        rain("p40124;p47006;p22005;p78111;p41102;", 3, 7, 2, 1, 128);
        sentence(25, "(DAY may pass 999 there)");
        rain(DAY_999 + "t0;p38014;p50121;", 1, 1, 20, 0, 1);
        rain(DAY_999 + "t0;p39014;p50121;", 1, 1, 20, 1, 1);
        sentence(25, "In RAIN a DEAF one has EARS 1, too.");
        rain("p60003;p60002;p50133;", 2, 1, 4, 3, 4);
        rain("p60003;p60001;p50133;", 2, 1, 4, 1, 1);
        sentence(25, "RAIN; part 0 above, 1 below the line. Refused as told: -1.");
        sentence(25, "Of longs they are 1000000000 less them (-1 is told as 1000000001).");
        for (int part = 0; part < 2; part++) {
            int asked = part;
            longBounds("rain(0, n, 20, " + part + ")", 0, 7, (x, n) -> x.rain(0, n, 20, asked));
            longBounds("rain(0, 7, t, " + part + ")", 2, 20, (x, t) -> x.rain(0, 7, t, asked));
            longBounds("rain(p, 7, 2, " + part + ")", 0, 9, (x, p) -> x.rain(p, 7, 2, asked));
        }
        longBounds("rain(0, 7, 20, part)", 0, 1, (x, part) -> x.rain(0, 7, 20, part));
        leaves("", "rain of none", x -> x.rain(0, 0, 2, 0), 1000000001L);
    }

    static void longBounds(String call, int least, int most, CallWith asked) {
        bounds(() -> told(TEN), call, least, most, asked, 1000000001L);
    }

    static void share(String text, int side, long above, long below) {
        fraction(text, "share(" + side + ")", x -> x.share(side, 0), x -> x.share(side, 1), above, below);
    }

    static void share() {
        sentence(26, "SHARE: WORTH of a SIDE by that of both: a fraction in least terms (0 by 1, if that is 0).");
        share("p00000;p00101;", 0, 1, 2);
        share("p00000;p10101;", 0, 1, 4);
        share("p00000;p10101;", 1, 3, 4);
        share("p10000;p10001;p40102;", 0, 2, 5);
        share("p40000;p20101;", 0, 9, 14);
        share("p00000;", 0, 1, 1);
        share(TEN_BLACK_QUEENS, 1, 1, 1);
        share("p00000;p40101;p40102;p40103;p40104;p40105;p40106;p40107;p40108;p40109;", 0, 1, 82);
        share("p00000;p10101;x1;", 0, 1, 1);
        sentence(26, "SHARE is 0 by 1 if its own is 0.");
        share("", 0, 0, 1);
        share("", 1, 0, 1);
        share("p00000;", 1, 0, 1);
        share("p00100;", 0, 0, 1);
        share("p00000;p10101;x0;", 0, 0, 1);
        share("p00000;p10101;x0;x1;", 1, 0, 1);
        sentence(26, "SHARE; part likewise. Refused as told: -1.");
        sentence(26, "Of longs they are 1000000000 less them (-1 is told as 1000000001).");
        longBounds("share(side, 0)", 0, 1, (x, side) -> x.share(side, 0));
        longBounds("share(side, 1)", 0, 1, (x, side) -> x.share(side, 1));
        longBounds("share(0, part)", 0, 1, (x, part) -> x.share(0, part));
        leaves("", "share(2, 0) of nobody", x -> x.share(2, 0), 1000000001L);
    }

    // ---- promises 27 to 29: told boards, games by seeds

    static void forged() {
        sentence(27, "FORGED: a ROW tells SQUARES of PIECES 0, 1, .. (36 TAKEN): the first that is not so"
                + " (no such PIECE, too); -4.");
        forged("p00000;p00135;", 0, -4, 0, 35);
        forged("p00000;p00135;", 0, 0, 1, 35);
        forged("p00000;p00135;", 0, 1, 0, 34);
        forged("p00000;p00135;", 0, 0, 1, 34);
        forged("p00000;p00135;", 0, 2, 0, 35, 36);
        forged("p00000;p00135;x1;", 0, -4, 0, 36);
        forged("p00000;p00135;x1;", 0, 1, 0, 35);
        forged("p00000;p00135;x1;", 0, 1, 0, -4);
        forged("p00000;", 0, 0, 36);
        forged("", 0, 0, 36);
        forged("", 0, 0, 0);
        forged("", 0, -4);
        forged(TEN, 0, -4, 0, 1, 2, 3, 4, 5, 6, 7, 8, 9);
        forged(TEN, 0, 9, 0, 1, 2, 3, 4, 5, 6, 7, 8, 10);
        forged(TEN, 0, 10, 0, 1, 2, 3, 4, 5, 6, 7, 8, 9, 10);
        forged(TEN, 2, 10, and(new int[] {0, 1, 2, 3, 4, 5, 6, 7, 8, 9}, times(90, 36)));
        forged("p00000;", 0, 0, -128);
        forged("p00000;", 1, 0, -32768);
        forged("p00000;", 2, 0, LEAST);
        forged("p00014;", 0, -4, 256 + 14);
        forged("p00014;", 1, 0, 256 + 14);
        forged("p00014;", 1, -4, 65536 + 14);
        forged("p00014;", 2, 0, 65536 + 14);
        sentence(27, "FORGED: a ROW that tells fewer and all of these so is not.");
        forged("p00000;p00135;", 0, -4, 0);
        forged("p00000;p00135;", 0, -4);
        forged(TEN, 1, -4, 0, 1, 2, 3, 4, 5, 6, 7, 8);
        sentence(27, "FORGED by the ROW in SHELF d; -4. -1, -11, -12.");
        shelfRefusals("forged", true, (x, d) -> x.forged(d));
    }

    static void forged(String text, int sort, long want, int... elements) {
        leaves(with(text, sort, elements), text + " forged", x -> x.forged(1), want);
    }

    static void judge() {
        sentence(28, "JUDGED: a ROW tells how many are THERE behind 0, 1, .. DAYS: the first that is not so"
                + " (skipped likewise); -4.");
        judge("p20002;p00132;", 0, -4, 2, 1, 1);
        judge("p20002;p00132;", 0, 0, 1, 1, 1);
        judge("p20002;p00132;", 0, 1, 2, 2, 1);
        judge("p20002;p00132;", 0, 2, 2, 1, 0);
        judge("p20002;p00132;", 0, -4);
        judge("", 0, -4, times(100, 0));
        judge("", 0, 99, and(times(99, 0), 1));
        judge("", 0, 0, 36);
        judge(TEN, 0, -4, 10);
        judge(TEN + "x0;", 0, -4, 9);
        judge(TEN_QUEENS, 0, -4, times(100, 10));
        // White's BISHOP takes the KING on DAY 99.
        judge("p39000;p50135;", 0, -4, and(times(99, 2), 1));
        judge("p39000;p50135;", 0, 99, times(100, 2));
        judge("p39000;p50135;", 0, 98, and(times(98, 2), 1));
        for (int sort = 0; sort < 3; sort++) {
            int least = new int[] {-128, -32768, LEAST}[sort];
            judge("p20002;p00132;", sort, -4, least, least, 1);
            judge("p20002;p00132;", sort, 2, least, least, 2);
            judge("p20002;p00132;", sort, -4, 2, least, 1);
            judge("p20002;p00132;", sort, 0, least + 1);
            judge("p20002;p00132;", sort, -4, times(100, least));
        }
        judge("p20002;p00132;", 1, 0, -128);
        judge("p20002;p00132;", 2, 0, -32768);
        judge("p20002;p00132;", 0, -4, 256 + 2);
        judge("p20002;p00132;", 1, 0, 256 + 2);
        judge("p20002;p00132;", 1, -4, 65536 + 2);
        judge("p20002;p00132;", 2, 0, 65536 + 2);
        judge(FROM_AFAR, 0, -4, 4, 3);
        sentence(28, "(DAY may pass 999 there)");
        judge(DAY_999 + "t0;p38014;p50121;", 0, -4, 2, 1);
        sentence(28, "JUDGED by the ROW in SHELF d; -4. -1, -11, -12.");
        shelfRefusals("judge", true, (x, d) -> x.judge(d));
    }

    static void judge(String text, int sort, long want, int... elements) {
        leaves(with(text, sort, elements), text + " judged", x -> x.judge(1), want);
    }

    static void games() {
        sentence(29, "GAMES with a seed z: n (1 .. 20), each from now: SQUARES of PIECES, by numbers, all THERE: a DRAW"
                + " below 36, and on from it upwards (behind 35 is 0) to the first on which none of those before stands;"
                + " then 16 DAYS: who is THERE, together; THOUGHT more, together.");
        bounds(TEN, "games(n, 1, 0)", 1, 20, (x, n) -> x.games(n, 1, 0));
        bounds(TEN, "games(n, 1, 1)", 1, 20, (x, n) -> x.games(n, 1, 1));
        leaves("", "nobody is THERE", x -> x.games(20, 1, 0), 0);
        leaves("", "THOUGHT of one", x -> x.games(1, 1, 1), 16);
        leaves("", "THOUGHT of twenty", x -> x.games(20, 1, 1), 320);
        leaves(TEN_QUEENS, "ten in one", x -> x.games(1, 1, 0), 10);
        leaves(TEN_QUEENS, "ten in twenty", x -> x.games(20, 1, 0), 200);
        leaves(TEN_QUEENS + "x0;x5;x9;", "ten in twenty", x -> x.games(20, 1, 0), 200);
        // A KING on 35; then a PAWN draws 35 and goes on at 0: it has five SQUARES ahead of it.
        leaves("p50014;p00015;", "behind 35 is 0", x -> x.games(1, 848, 1), 11);
        leaves("p50014;p00015;", "behind 34 is 35", x -> x.games(1, 660, 1), 16);
        leaves("p50014;p00015;", "behind 0 is 1", x -> x.games(1, 999, 1), 11);
        leaves("p50014;p50015;p00016;", "35, 0, and behind 35 is 1", x -> x.games(1, 269374, 1), 11);
        leaves("p50014;p50015;p00016;", "35, behind it 0, and behind 0 is 1", x -> x.games(1, 8262, 1), 11);
        leaves("p50014;p50015;p00016;", "35, behind it 0, behind it 1", x -> x.games(1, 61425, 1), 11);
        // Where they stand now is nothing to them: 35 is the KING's, though the PAWN stands there now.
        leaves("p50014;p00035;", "35, where another stands now", x -> x.games(1, 848, 1), 11);
        leaves("p50000;p00015;", "0, where another stands now", x -> x.games(1, 848, 1), 11);
        sentence(29, "GAMES: all PIECES are THERE, DAY and TURN as now.");
        leaves("p00002;x0;", "one TAKEN is THERE", x -> x.games(1, 1, 0), 1);
        leaves("d01;p00002;", "black's TURN", x -> x.games(1, 1, 1), 15);
        leaves("p30002;", "DAY 2, 4, .. are black's", x -> x.games(1, 1, 1), 16);
        leaves("p30002;t1;", "black's is DAY 1", x -> x.games(1, 1, 1), 15);
        leaves(DAY_999 + "p00002;", "THERE behind DAY 999", x -> x.games(20, 1, 0), 20);
        leaves(DAY_999 + "t0;p38002;", "on DAY 1000", x -> x.games(1, 1, 1), 15);
        leaves(DAY_999 + "t1;p38002;", "on no other DAY", x -> x.games(1, 1, 1), 16);
        draws();
        sentence(29, "GAMES: THERE (what 0), THOUGHT (1). -1.");
        bounds(TEN, "games(1, 1, what)", 0, 1, (x, what) -> x.games(1, 1, what));
        bounds("", "games(20, 1, what) of nobody", 0, 1, (x, what) -> x.games(20, 1, what));
        for (int z : new int[] {LEAST, -1, 0, MOST}) {
            ask(TEN, "any seed is taken", x -> Math.min(0, x.games(1, z, 0)), 0);
        }
    }

    static void draws() {
        sentence(29, "A DRAW below n: z becomes z times 1103515245 plus 12345 (an int);"
                + " (z without its sign's bit over 65536, cut) modulo n.");
        for (int z : new int[] {LEAST, LEAST + 1, -12345, -1, 0, 1, 2, 3, 77, 32767, 65535, 65536, 1103515245, MOST - 1, MOST}) {
            for (int n = 1; n <= 20; n++) {
                int games = n;
                long rows = 0;
                long columns = 0;
                long drawn = z;
                for (int i = 0; i < n; i++) {
                    drawn = (int) (drawn * 1103515245L + 12345L);
                    long square = ((drawn + (1L << 32)) % (1L << 31)) / 65536 % 36;
                    rows += square / 6;
                    columns += square % 6;
                }
                // A PAWN goes on from its row to the last, a NUN from its column to the first.
                ask("p00014;", "rows of " + n + " games with " + z, x -> x.games(games, z, 1) - 11 * games, rows);
                ask("d12;p79014;", "columns of " + n + " games with " + z, x -> 16 * games - x.games(games, z, 1), columns);
            }
        }
    }

    public static void main(String[] args) {
        squareThen();
        then();
        falls();
        still();
        next();
        heard();
        danger();
        stand();
        off();
        ears();
        side();
        free();
        whatIs();
        whereFrom();
        pairs();
        rain();
        share();
        forged();
        judge();
        games();
        end(10, 29);
    }
}
