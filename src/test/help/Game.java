/** An object of the class whose calls are counted: behind the 512th the document promises nothing. */
final class Game {
    static final int MOST_CALLS = 512;

    private final TakenUpByThePieces x = new TakenUpByThePieces();
    private int calls = 0;

    private TakenUpByThePieces called() {
        calls++;
        if (calls > MOST_CALLS) {
            throw new IllegalStateException("a test makes more than " + MOST_CALLS + " calls of one object");
        }
        return x;
    }

    int calls() {
        return calls;
    }

    int game(int d) {
        return called().game(d);
    }

    int piece(int p, int what) {
        return called().piece(p, what);
    }

    int on(int square) {
        return called().on(square);
    }

    int comes(int d, int side, int square) {
        return called().comes(d, side, square);
    }

    int stands(int p, int square) {
        return called().stands(p, square);
    }

    int takes(int p) {
        return called().takes(p);
    }

    int turn(int side) {
        return called().turn(side);
    }

    int days(int n) {
        return called().days(n);
    }

    int squareThen(int p, int n) {
        return called().squareThen(p, n);
    }

    int then(int n, int what) {
        return called().then(n, what);
    }

    int falls(int p) {
        return called().falls(p);
    }

    int still() {
        return called().still();
    }

    int next(int what) {
        return called().next(what);
    }

    int heard(int p) {
        return called().heard(p);
    }

    int danger(int side) {
        return called().danger(side);
    }

    int stand(int p, int n, int what) {
        return called().stand(p, n, what);
    }

    int off(int n) {
        return called().off(n);
    }

    int ears(int p, int other) {
        return called().ears(p, other);
    }

    int side(int side, int what) {
        return called().side(side, what);
    }

    int free(int what) {
        return called().free(what);
    }

    int whatIs(int d, int p, int what) {
        return called().whatIs(d, p, what);
    }

    int whereFrom(int d, int p, int what) {
        return called().whereFrom(d, p, what);
    }

    int two(int a, int b, int n) {
        return called().two(a, b, n);
    }

    long rain(int p, int n, int t, int part) {
        return called().rain(p, n, t, part);
    }

    long share(int side, int part) {
        return called().share(side, part);
    }

    int forged(int d) {
        return called().forged(d);
    }

    int judge(int d) {
        return called().judge(d);
    }

    int games(int n, int z, int what) {
        return called().games(n, z, what);
    }

    int image() {
        return called().image();
    }

    int restore() {
        return called().restore();
    }

    int count(int what) {
        return called().count(what);
    }

    int keep(int d, int what, int k, int figure) {
        return called().keep(d, what, k, figure);
    }

    int row(int d, int sort, int n) {
        return called().row(d, sort, n);
    }

    int put(int d, int i, int v) {
        return called().put(d, i, v);
    }

    /** The element, or which of its two exceptions the call throws. */
    long element(int d, int i) {
        TakenUpByThePieces asked = called();
        try {
            return asked.element(d, i);
        } catch (IllegalArgumentException e) {
            return e.getClass() == IllegalArgumentException.class ? Sentences.ARGUMENT : Sentences.OTHER_THROWN;
        } catch (IllegalStateException e) {
            return e.getClass() == IllegalStateException.class ? Sentences.STATE : Sentences.OTHER_THROWN;
        }
    }

    int copy(int d, int i, int e, int j, int n) {
        return called().copy(d, i, e, j, n);
    }

    int cost(int d) {
        return called().cost(d);
    }

    int toss(int d) {
        return called().toss(d);
    }
}
