import java.io.IOException;
import java.nio.file.Files;
import java.nio.file.Path;
import java.util.function.ToIntFunction;

/** What the tests share: worlds to call on, and checks of what was answered. */
abstract class Checks {
    static final int BAD = -1, FULL = -2, FINDING = -3, STATE = -4, SPENT = -6, NONE = -9;
    static final int NOTHING = 1, BEYOND = 2, UNLIKE = 3, NOUGHT = 4, SIZE = 5;
    static final int LOW = Integer.MIN_VALUE, HIGH = Integer.MAX_VALUE;

    /** Two WORDS: a plain one of 2 PARTS draws 0 as [0, 1], 1 as [1, 2]; STEPS: 14 10, 4 20. */
    static final String TWO = "w6200000000w0620000000";
    static final String TWO_ABROAD = "w6000000002w0062000000";
    /** WORD 0 is known by PARTS 0 and 1 together alone. */
    static final String HIDDEN = "w4400000000w5000000000w0500000000";
    /** Two WORDS that no plain one takes for each other. */
    static final String SHARP = "w9000000000w0900000000";
    static final String EIGHT = "w1000000000w0100000000w0010000000w0001000000"
            + "w0000100000w0000010000w0000001000w0000000100";

    static int wrong = 0;
    static int promise = 0;
    private static String sentence = "";
    private static String document = "";

    /** The tests from here on are of this sentence, which must stand in the document there. */
    static void sentence(int of, String words) {
        promise = of;
        sentence = words;
        if (!section(of).contains(words)) {
            wrong++;
            System.out.println("promise " + of + " does not say '" + words + "'");
        }
    }

    /** A promise's text; 0: what stands ahead of them all. */
    static String section(int of) {
        if (document.isEmpty()) {
            try {
                document = Files.readString(Path.of("../shared/DOC.md")).replaceAll("\\s+", " ");
            } catch (IOException e) {
                throw new IllegalStateException(e);
            }
        }
        int from = of == 0 ? 0 : document.indexOf("## Promise " + of + ":");
        int to = of == 49 ? document.indexOf("## Not promised") : document.indexOf("## Promise " + (of + 1) + ":");
        return document.substring(from, to);
    }

    static void due(String call, long got, long want) {
        if (got != want) {
            wrong++;
            String of = sentence.isEmpty() ? "" : " ('" + sentence + "')";
            System.out.println("promise " + promise + of + ": " + call + " answered " + got + ", due is " + want);
        }
    }

    static void end(String good) {
        System.out.println(wrong == 0 ? good : wrong + " answers are not as due");
        System.exit(wrong == 0 ? 0 : 1);
    }

    static void finds(String call, PadRound x, int finding, int got) {
        due(call, got, FINDING);
        due(call + ", finding()", x.finding(), finding);
    }

    /**
     * A call is refused, by an answer below 0 or by a FINDING above 0, and changes nothing
     * but finding(), findings().
     */
    static void refuses(String call, int want, PadRound x, ToIntFunction<PadRound> f) {
        long[] before = state(x);
        due(call, f.applyAsInt(x), want > 0 ? FINDING : want);
        long[] after = state(x);
        String[] names = {"digest()", "asked()", "upper()", "lower()"};
        for (int i = 0; i < names.length; i++) {
            due(call + ", then " + names[i], after[i], before[i]);
        }
        due(call + ", then finding()", after[4], want > 0 ? want : before[4]);
        for (int each = 1; each <= 5; each++) {
            due(call + ", then findings(" + each + ")", after[4 + each], before[4 + each] + (each == want ? 1 : 0));
        }
    }

    private static long[] state(PadRound x) {
        return new long[] {x.digest(), x.asked(), x.upper(), x.lower(), x.finding(), x.findings(1), x.findings(2),
            x.findings(3), x.findings(4), x.findings(5)};
    }

    static void asks(String call, PadRound x, int told, int got) {
        due(call, got, 1);
        due(call + ", asked()", x.asked(), told);
    }

    /** A call that answers a number and tells another one by asked(). */
    static void both(String call, PadRound x, int want, int told, int got) {
        due(call, got, want);
        due(call + ", asked()", x.asked(), told);
    }

    static void tells(String call, PadRound x, long up, long low) {
        due(call + ", upper()", x.upper(), up);
        due(call + ", lower()", x.lower(), low);
    }

    static void write(PadRound x, int t, String s) {
        x.text(t, s.length());
        for (int i = 0; i < s.length(); i++) {
            x.put(t, i, s.charAt(i));
        }
    }

    static void fill(PadRound x, int r, int... v) {
        x.row(r, v.length);
        for (int i = 0; i < v.length; i++) {
            x.lay(r, i, v[i]);
        }
    }

    static void holds(String call, PadRound x, int r, int... v) {
        for (int i = 0; i < v.length; i++) {
            due(call + ", at(" + r + ", " + i + ")", x.at(r, i), 1);
            due(call + ", place " + i, x.asked(), v[i]);
        }
        due(call + ", size of row " + r, x.at(r, v.length), FINDING);
        due(call + ", row " + r + " ends", x.finding(), BEYOND);
    }

    static PadRound world(String home) {
        PadRound x = new PadRound();
        write(x, 0, home);
        x.box(0, 0);
        return x;
    }

    static PadRound world(String home, String abroad) {
        PadRound x = world(home);
        write(x, 1, abroad);
        x.box(1, 1);
        return x;
    }

    static PadRound plainTable(int n) {
        PadRound x = world(TWO);
        int[] table = new int[n];
        for (int p = 0; p < n; p++) {
            x.player(0, 0, 2, 0);
            table[p] = p;
        }
        fill(x, 0, table);
        return x;
    }

    static final int[] NO_ROW = {-1, 6, NONE, LOW, HIGH};
    static final int[] NO_TEXT = {-1, 4, LOW, HIGH};
    static final int[] NO_LAND = {-1, 2, LOW, HIGH};
    static final int[] NO_PLAYER = {-1, 8, NONE, LOW, HIGH};
    static final int[] NO_WORD = {-1, 2, 7, 8, LOW, HIGH};

    /**
     * Something of everything: two LANDS of two WORDS, eight PLAYERS, ROW 0 a TABLE of the
     * first four, ROW 1 its PADS, ROW 2 a DRAWN row, ROW 3 empty, ROW 5 missing, TEXT 2 empty,
     * TEXT 3 missing, three LEAVES, a fraction told, and 77 by asked().
     */
    static PadRound evening() {
        PadRound x = world(TWO, TWO_ABROAD);
        for (int kind = 0; kind < 6; kind++) {
            x.player(kind, 0, 2, kind % 2);
        }
        x.player(0, 1, 2, 0);
        x.player(5, 1, 2, 1);
        fill(x, 0, 0, 1, 2, 3);
        fill(x, 1, 0, 1, 0, 1);
        fill(x, 2, 0, 1);
        fill(x, 3);
        fill(x, 4, 5, 77, 9);
        x.text(2, 0);
        x.leaf(0, 0, 2);
        x.leaf(1, 1, 2);
        x.guessed(5, 2, NONE, 0);
        x.comes(0, 0, 0);
        x.at(4, 1);
        return x;
    }

    /** An evening with a ROW so filled. */
    static PadRound evening(int r, int... v) {
        PadRound x = evening();
        fill(x, r, v);
        x.at(4, 1);
        return x;
    }

    interface OfOne {
        int call(PadRound x, int v);
    }

    /** A call is BAD for each of these numbers. */
    static void bad(String call, int[] numbers, OfOne f) {
        for (int v : numbers) {
            refuses(call + " with " + v, BAD, evening(), x -> f.call(x, v));
        }
    }

    static int[] upTo(int n) {
        int[] v = new int[n];
        for (int i = 0; i < n; i++) {
            v[i] = i;
        }
        return v;
    }

    /** What a call on a DRAWN row refuses, in its order, and the least and the most that it takes. */
    static void drawnRefusals(String name, OfOne f) {
        ToIntFunction<PadRound> call = x -> f.call(x, 5);
        bad(name + " of a ROW", NO_ROW, f);
        refuses(name + " of no ROW", NOTHING, evening(), call);
        refuses(name + " of no PARTS", SIZE, evening(5), call);
        refuses(name + " of seven PARTS", SIZE, evening(5, upTo(7)), call);
        refuses(name + " of forty places", SIZE, evening(5, new int[40]), call);
        refuses(name + " of seven, one of them none and two alike", SIZE, evening(5, 0, 0, 1, 2, 3, 4, 10), call);
        for (int part : new int[] {-1, 10, 31, 32, 41, LOW, HIGH}) {
            refuses(name + " of PART " + part, UNLIKE, evening(5, part), call);
            refuses(name + " of PART " + part + " at last", UNLIKE, evening(5, 0, 1, part), call);
        }
        refuses(name + " of a PART twice", UNLIKE, evening(5, 9, 9), call);
        refuses(name + " of a PART twice, far off", UNLIKE, evening(5, 0, 1, 2, 3, 4, 0), call);
        taken(name + " of one PART", f.call(evening(5, 9), 5));
        taken(name + " of six PARTS", f.call(evening(5, 9, 0, 8, 1, 7, 2), 5));
    }

    /** What a call on a TABLE refuses, in its order, and the sizes that it takes. */
    static void tableRefusals(String name, OfOne f) {
        ToIntFunction<PadRound> call = x -> f.call(x, 5);
        bad(name + " of a ROW", NO_ROW, f);
        refuses(name + " of no ROW", NOTHING, evening(), call);
        for (int n : new int[] {0, 1, 3, 5, 7}) {
            refuses(name + " of " + n, SIZE, evening(5, upTo(n)), call);
        }
        for (int n : new int[] {3, 9, 10, 40}) {
            refuses(name + " of " + n + " alike ones", SIZE, evening(5, new int[n]), call);
        }
        for (int p : new int[] {-1, 8, 31, 32, 33, NONE, LOW, HIGH}) {
            refuses(name + " with PLAYER " + p, UNLIKE, evening(5, p, 0, 2, 3), call);
            refuses(name + " with PLAYER " + p + " at last", UNLIKE, evening(5, 2, 0, 3, p), call);
        }
        refuses(name + " with one twice", UNLIKE, evening(5, 1, 1, 2, 3), call);
        refuses(name + " with one twice, far off", UNLIKE, evening(5, 1, 2, 3, 1), call);
    }

    static void taken(String call, int got) {
        due(call + " is taken (1: so, 0: " + got + ")", got >= 0 || got == NONE ? 1 : 0, 1);
    }
}
