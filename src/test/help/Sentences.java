import java.io.IOException;
import java.nio.charset.StandardCharsets;
import java.nio.file.Files;
import java.nio.file.Path;
import java.util.Arrays;
import java.util.TreeSet;

/** Checks under sentences of the document: one that fails names its promise and its sentence. */
abstract class Sentences {
    static final int LEAST = Integer.MIN_VALUE;
    static final int MOST = Integer.MAX_VALUE;
    /** What Game tells of an element that is refused. */
    static final long ARGUMENT = Long.MIN_VALUE;
    static final long STATE = Long.MIN_VALUE + 1;
    static final long OTHER_THROWN = Long.MIN_VALUE + 2;

    /** SHELF that told() uses, and leaves with nothing on it. */
    static final int TELLING = 7;
    static final String DAY_60 = "d60;";
    static final String DAY_960 = DAY_60.repeat(16);
    static final String DAY_999 = DAY_960 + "d39;";
    static final String TEN = "p00000;p00001;p00002;p00003;p00004;p00105;p00106;p00107;p00108;p00109;";

    /** Each hears from afar, and has an IDEA till it stands in the last corner; none is ever TAKEN. */
    static final String TEN_QUEENS = "p40000;p40001;p40002;p40003;p40004;p40005;p40006;p40007;p40008;p40009;";
    static final String TEN_BLACK_QUEENS = "p40100;p40101;p40102;p40103;p40104;p40105;p40106;p40107;p40108;p40109;";

    private static final Path DOCUMENT = Path.of("..", "shared", "DOC.md");
    private static final String WORDS = wordsOf(DOCUMENT);
    private static final TreeSet<Integer> PROMISES = new TreeSet<>();
    private static int sentences = 0;
    private static int passed = 0;
    private static int failed = 0;
    private static String about = "";
    /** Whether an object has THE IMAGE of a board with nobody on it from the beginning. */
    private static boolean withImage = false;

    interface Call {
        long of(Game x);
    }

    interface CallWith {
        long of(Game x, int v);
    }

    interface Made {
        Game make();
    }

    // ---- sentences and checks

    /** What is checked from here on is this sentence, of use to this promise. */
    static void sentence(int promise, String words) {
        about = "promise " + promise + ", \"" + words + "\": ";
        PROMISES.add(promise);
        sentences++;
        if (!WORDS.isEmpty() && !WORDS.contains(words)) {
            fails("the document does not say so");
        }
    }

    static void is(String call, long got, long want) {
        if (got == want) {
            passed++;
        } else {
            fails(call + " answered " + got + ", due is " + want);
        }
    }

    static void holds(String what, boolean so) {
        if (so) {
            passed++;
        } else {
            fails(what + " is not so");
        }
    }

    private static void fails(String what) {
        failed++;
        System.out.println(about + what);
    }

    /** Tells how many checks hold, when each of the promises has had a sentence; ends with 1 if one does not. */
    static void end(int firstPromise, int lastPromise) {
        about = "at the end: ";
        for (int promise = firstPromise; promise <= lastPromise; promise++) {
            holds("a sentence of promise " + promise, PROMISES.contains(promise));
        }
        System.out.println(sentences + " sentences, " + passed + " checks hold, " + failed + " do not");
        if (failed != 0) {
            System.exit(1);
        }
    }

    /** Without the document the checks stand all the same, only their quotes are not looked up. */
    private static String wordsOf(Path document) {
        try {
            String all = Files.readString(document, StandardCharsets.UTF_8);
            return all.replace("```text", " ").replace("```", " ").replaceAll("\\s+", " ");
        } catch (IOException e) {
            System.out.println("no " + document + ": quotes are not looked up");
            return "";
        }
    }

    // ---- objects in a told state

    static Game fresh() {
        Game x = new Game();
        if (withImage) {
            x.image();
        }
        return x;
    }

    /** An object made by the STATEMENTS of a text, but by calls that are cheaper than game(). */
    static Game told(String text) {
        Game x = fresh();
        more(x, text);
        return x;
    }

    static void more(Game x, String text) {
        for (String statement : text.split(";")) {
            if (!statement.isEmpty() && does(x, statement) < -4) {
                fails("the making of " + text + " at " + statement);
            }
        }
        x.keep(TELLING, 0, 0, 0);
    }

    private static int does(Game x, String s) {
        int first = s.charAt(1) - '0';
        switch (s.charAt(0)) {
            case 'p':
                x.keep(TELLING, 1, first, s.charAt(2) - '0');
                return seen(x.comes(TELLING, s.charAt(3) - '0', Integer.parseInt(s.substring(4))));
            case 'm':
                int before = x.stands(first, Integer.parseInt(s.substring(2)));
                return before == -4 ? 0 : seen(before);
            case 'x': return seen(x.takes(first));
            case 't': return seen(x.turn(first));
            case 'd': return seen(x.days(Integer.parseInt(s.substring(1))));
            default: return seen(tell(x, TELLING, s + ";"));
        }
    }

    private static int seen(int answer) {
        return answer < 0 ? -5 : answer;
    }

    /** Puts a text on a SHELF, and answers what game() does. */
    static int tell(Game x, int d, String text) {
        text(x, d, text);
        return x.game(d);
    }

    static void text(Game x, int d, String text) {
        x.row(d, 0, text.length());
        for (int i = 0; i < text.length(); i++) {
            x.put(d, i, text.charAt(i));
        }
    }

    static void row(Game x, int d, int sort, int... elements) {
        x.row(d, sort, elements.length);
        for (int i = 0; i < elements.length; i++) {
            x.put(d, i, elements[i]);
        }
    }

    /** A SQUARE as a text tells it. */
    static String twoDigits(int number) {
        return (number < 10 ? "0" : "") + number;
    }

    /** The same element over and over. */
    static int[] times(int n, int element) {
        int[] all = new int[n];
        Arrays.fill(all, element);
        return all;
    }

    static int[] and(int[] some, int... more) {
        int[] all = Arrays.copyOf(some, some.length + more.length);
        System.arraycopy(more, 0, all, some.length, more.length);
        return all;
    }

    /** What comes to the told pieces, with a ROW on SHELF 1. */
    static Made with(String text, int sort, int... elements) {
        return () -> {
            Game x = told(text);
            row(x, 1, sort, elements);
            return x;
        };
    }

    // ---- calls

    static void ask(String text, String call, Call asked, long want) {
        is(text + " " + call, asked.of(told(text)), want);
    }

    static void ask(Made made, String call, Call asked, long want) {
        is(call, asked.of(made.make()), want);
    }

    /** The same, of a call that asks or is refused: then all is as on a twin that has not been called. */
    static void leaves(Made made, String call, Call asked, long want) {
        leavesWithoutImage(made, call, asked, want);
        withImage = true;
        leavesWithoutImage(made, call + ", with THE IMAGE of nobody,", asked, want);
        withImage = false;
    }

    static void leavesWithoutImage(Made made, String call, Call asked, long want) {
        Game x = made.make();
        Game twin = made.make();
        is(call, asked.of(x), want);
        holds(call + " leaves all as it was", view(x).equals(view(twin)));
    }

    static void leaves(String text, String call, Call asked, long want) {
        leaves(() -> told(text), text + " " + call, asked, want);
    }

    /** On either side of a bound the last number that is taken, and the first that is refused. */
    static void bounds(Made made, String call, int least, int most, CallWith asked, long refusal) {
        for (int v : new int[] {least, most}) {
            holds(call + " of " + v + " is taken", asked.of(made.make(), v) != refusal);
        }
        for (int v : new int[] {least - 1, most + 1, LEAST, MOST}) {
            leaves(made, call + " of " + v, x -> asked.of(x, v), refusal);
        }
    }

    static void bounds(String text, String call, int least, int most, CallWith asked) {
        bounds(() -> told(text), text + " " + call, least, most, asked, -1);
    }

    /** Who is asked for: all PIECES that have come, be they ten or two, and none that has not. */
    static void pieceBounds(String call, CallWith asked) {
        bounds(TEN, call, 0, 9, asked);
        bounds("p00014;p00120;", call, 0, 1, asked);
        leaves("", call + " of 0 when there are none", x -> asked.of(x, 0), -1);
    }

    /** What a call refuses of a SHELF that has to hold a ROW (or else a KIND of PIECE). */
    static void shelfRefusals(String call, boolean ofRow, CallWith asked) {
        for (int d : new int[] {-1, 8, LEAST, MOST}) {
            leaves(heldBoth(), call + " of SHELF " + d, x -> asked.of(x, d), -1);
        }
        leaves(heldBoth(), call + " of nothing", x -> asked.of(x, 3), -11);
        leaves(heldBoth(), call + " of another kind", x -> asked.of(x, ofRow ? 2 : 1), -12);
        for (int d : new int[] {0, 7}) {
            long answer = asked.of(ofRow ? rowOn(d) : kindOn(d), d);
            holds(call + " of SHELF " + d + " is taken", answer != -1 && answer != -11 && answer != -12);
        }
    }

    /** Two PIECES, a ROW on SHELF 1, a KIND of PIECE on SHELF 2, nothing on the others. */
    static Made heldBoth() {
        return () -> {
            Game x = told("p00014;p00020;");
            row(x, 1, 0, 't', '0', ';');
            x.keep(2, 1, 2, 3);
            return x;
        };
    }

    private static Game rowOn(int d) {
        Game x = told("p00014;p00020;");
        row(x, d, 0, 't', '0', ';');
        return x;
    }

    private static Game kindOn(int d) {
        Game x = told("p00014;p00020;");
        x.keep(d, 1, 2, 3);
        return x;
    }

    // ---- all that there is

    /** All that an object holds, THE IMAGE too. What is asked for it changes the object: it is its last use. */
    static String view(Game x) {
        StringBuilder all = new StringBuilder();
        viewBoard(x, all);
        for (int d = 0; d < 8; d++) {
            viewShelf(x, d, all);
        }
        all.append("image ").append(x.restore()).append(' ');
        viewBoard(x, all);
        return all.toString();
    }

    private static void viewBoard(Game x, StringBuilder all) {
        for (int what = 0; what < 5; what++) {
            all.append(x.count(what)).append(' ');
        }
        int pieces = x.count(0);
        for (int p = 0; p < pieces; p++) {
            for (int what = 0; what < 4; what++) {
                all.append(x.piece(p, what)).append(' ');
            }
        }
        for (int square = 0; square < 36; square++) {
            all.append(x.on(square)).append(' ');
        }
    }

    private static void viewShelf(Game x, int d, StringBuilder all) {
        int cost = x.cost(d);
        all.append("shelf ").append(d).append(' ').append(cost).append(' ').append(x.toss(d)).append(' ');
        if (cost >= 0) {
            viewKind(x, d, all);
        }
        if (cost == -12) {
            viewRow(x, d, all);
        }
    }

    /** What COST and FAILURE do not tell of a KIND and a FIGURE, one tells that comes from the SHELF. */
    private static void viewKind(Game x, int d, StringBuilder all) {
        int square = 0;
        while (square < 36 && x.on(square) != -4) {
            square++;
        }
        int p = x.comes(d, 0, square);
        all.append(p).append(' ').append(x.piece(p, 0)).append(' ').append(x.piece(p, 1)).append(' ');
    }

    private static void viewRow(Game x, int d, StringBuilder all) {
        int size = 0;
        long element = x.element(d, 0);
        while (element != STATE && size <= 100) {
            all.append(element).append(' ');
            size++;
            element = x.element(d, size);
        }
        all.append("size ").append(size).append(" sort ");
        if (size == 0) {
            all.append(x.game(d)).append(' ');
        } else {
            x.put(d, 0, 70000);
            all.append(x.element(d, 0)).append(' ');
        }
    }
}
