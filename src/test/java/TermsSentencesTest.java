/** The sentences of the document that say what its words mean, each where an answer shows it. */
public final class TermsSentencesTest extends Sentences {

    /** One alone of a KIND and a SIDE on a SQUARE, with FIGURE 1, so that a BISHOP's DAYS are 3, 6, .. */
    static long ideaOfOne(int kind, int side, int square, String before) {
        return told(before + "p" + kind + "1" + side + twoDigits(square) + ";").piece(0, 6);
    }

    static long squareAt(int row, int column) {
        boolean isOnBoard = row >= 0 && row < 6 && column >= 0 && column < 6;
        return isOnBoard ? 6 * row + column : -4;
    }

    static void rowsAndColumns() {
        sentence(3, "row SQUARE by 6, cut, column SQUARE modulo 6.");
        sentence(3, "a SIDE (0 white, whose FORWARD is a row more; 1 black, a row less)");
        sentence(3, "IDEA of a PIECE on a DAY d (the SQUARE it would go to; right is a column more;");
        for (int side = 0; side < 2; side++) {
            int forward = side == 0 ? 1 : -1;
            for (int square = 0; square < 36; square++) {
                int row = square / 6;
                int column = square % 6;
                String one = " of one of SIDE " + side + " on " + square;
                int last = side == 0 ? 5 : 0;
                long ahead = row == last ? -4 : squareAt(last, column);
                long knight = squareAt(row + 2 * forward, column + 1);
                knight = knight != -4 ? knight : squareAt(row + 2 * forward, column - 1);
                long bishop = squareAt(row + forward, column + 1);
                long left = squareAt(row, column - 1);
                is("a PAWN's" + one, ideaOfOne(0, side, square, ""), squareAt(row + forward, column));
                is("a KNIGHT's" + one, ideaOfOne(1, side, square, ""), knight);
                is("a ROOK's" + one, ideaOfOne(2, side, square, ""), ahead);
                is("a BISHOP's on DAY 2" + one, ideaOfOne(3, side, square, "d01;"), -4);
                is("a BISHOP's on DAY 3" + one, ideaOfOne(3, side, square, "d02;"), bishop);
                long right = column == 5 ? -4 : squareAt(row, 5);
                is("a QUEEN's" + one, ideaOfOne(4, side, square, ""), ahead != -4 ? ahead : right);
                is("a KING's" + one, ideaOfOne(5, side, square, ""), -4);
                is("a DEAF one's" + one, ideaOfOne(6, side, square, ""), ahead);
                is("a NUN's on DAY 2" + one, ideaOfOne(7, side, square, "d01;"), left);
                is("a NUN's on DAY 3" + one, ideaOfOne(7, side, square, "d02;"), left != -4 ? left : bishop);
            }
        }
    }

    static void kinds() {
        sentence(3, "KINDS: 0 PAWN; 1 KNIGHT under PAWN; 2 ROOK under PAWN; 3 BISHOP under PAWN; 4 QUEEN under ROOK;"
                + " 5 KING under PAWN; 6 DEAF under ROOK; 7 NUN under BISHOP.");
        sentence(3, "of a KIND (or SORT) \"n more\", \"n less\" without more words is: than what the one it is under has;"
                + " \"a by b, cut\" is a divided by b, toward 0;");
        for (int f = 0; f < 10; f++) {
            int[] ears = {2, 3, f, 4, f + 3, 5, 0, 4};
            int[] worth = {1, 3, 5, 1 + f / 3, 9, 9, 4, 1 + f / 3};
            for (int k = 0; k < 8; k++) {
                Game x = told("p" + k + f + "014;");
                is("KIND", x.piece(0, 0), k);
                is("FIGURE", x.piece(0, 1), f);
                is("EARS of KIND " + k + " with " + f, x.piece(0, 4), ears[k]);
                is("WORTH of KIND " + k + " with " + f, x.piece(0, 5), worth[k]);
            }
        }
    }

    static void thereOrTaken() {
        sentence(5, "THERE (at first) or TAKEN.");
        ask("p00014;", "THERE", x -> x.count(4), 1);
        ask("p00014;x0;", "TAKEN", x -> x.count(4), 0);
        sentence(3, "; -4 none)");
        ask("p00032;", "the IDEA of one at the end", x -> x.piece(0, 6), -4);
        sentence(11, "SQUARE of one (-4 TAKEN); who is THERE (bits); THOUGHT; WORTH of a SIDE (of those THERE).");
        String taking = "p20002;p00132;p30035;x2;p51035;";
        ask(taking, "SQUARE of one", x -> x.squareThen(0, 1), 32);
        ask(taking, "SQUARE of one TAKEN", x -> x.squareThen(1, 1), -4);
        ask(taking, "THERE", x -> x.then(0, 0), 11);
        ask(taking, "THERE behind a DAY", x -> x.then(1, 0), 9);
        ask(taking, "THOUGHT", x -> x.then(2, 1), 1);
        ask(taking, "WORTH of white", x -> x.then(1, 2), 14);
        ask(taking, "WORTH of black", x -> x.then(0, 3), 1);
        ask(taking, "WORTH of black behind a DAY", x -> x.then(1, 3), 0);
        sentence(17, "\"a and b\" of two numbers is their sum;");
        ask("p50014;", "the difference and 100", x -> x.stand(0, 0, 1), 109);
        ask("p50114;p10000;p00001;", "the difference and 100", x -> x.stand(1, 0, 1), 95);
    }

    static void refusals() {
        sentence(1, "REFUSALS (answers; nothing changes): -1 no such one, one twice, a number out of its range;"
                + " -2 there is no room; -3 it is not as it must be; -4 none.");
        leaves("p00014;", "no such one", x -> x.heard(1), -1);
        leaves("p00014;", "one twice", x -> x.ears(0, 0), -1);
        leaves("p00014;", "a number out of its range", x -> x.turn(2), -1);
        leaves(() -> held(TEN), "there is no room", x -> x.comes(0, 0, 35), -2);
        leaves("p00014;x0;", "it is not as it must be", x -> x.takes(0), -3);
        leaves("p00014;", "none", x -> x.on(15), -4);
        sentence(39, "Their REFUSALS: -11 nothing is held where something is wanted; -12 it is of another kind;");
        leaves(() -> held(""), "nothing is held", x -> x.toss(1), -11);
        leaves(() -> held(""), "it is of another kind", x -> x.put(0, 0, 0), -12);
        sentence(34, "-14 a size below 0; -15 a FAILURE that is none.");
        leaves(() -> held(""), "a size below 0", x -> x.row(0, 0, -1), -14);
        leaves(() -> held(""), "a FAILURE that is none", x -> x.toss(0), -15);
    }

    /** A PAWN with FIGURE 0 on SHELF 0. */
    static Game held(String text) {
        Game x = told(text);
        x.keep(0, 1, 0, 0);
        return x;
    }

    public static void main(String[] args) {
        rowsAndColumns();
        kinds();
        thereOrTaken();
        refusals();
        end(3, 3);
    }
}
