import java.util.function.ToIntFunction;

/**
 * The boundary cases that the document names in promises 18 to 30: each sentence is quoted,
 * and the tests below it fail if it is broken.
 */
public final class EdgesOfRoundsTest extends Checks {
    public static void main(String[] args) {
        step();
        comes();
        fractions();
        most();
        keeps();
        was();
        off();
        kept();
        padsGoRound();
        seats();
        parts();
        few();
        soon();
        common();
        land();
        end("rounds, what to draw, lands: each edge is kept");
    }

    /** Plain ones who are never wrong, and at last one who always says WORD 1. */
    private static PadRound sharpTable(int n, boolean lastIsWrong) {
        PadRound x = world(SHARP);
        for (int p = 0; p < n; p++) {
            x.player(lastIsWrong && p == n - 1 ? 4 : 0, 0, 1, 1);
        }
        fill(x, 0, upTo(n));
        return x;
    }

    private static void step() {
        sentence(18, "BAD: also one PLAYER.");
        for (int p = 0; p < 8; p++) {
            int each = p;
            refuses("step(" + p + ", " + p + ", 0, 5)", BAD, evening(), x -> x.step(each, each, 0, 5));
        }
        bad("step from one", NO_PLAYER, (x, v) -> x.step(v, 1, 0, 5));
        bad("step to one", NO_PLAYER, (x, v) -> x.step(0, v, 0, 5));
        bad("step from and to", NO_PLAYER, (x, v) -> x.step(v, v, 0, 5));
        bad("step of a WORD", NO_WORD, (x, v) -> x.step(0, 1, v, 5));
        bad("step to a ROW", NO_ROW, (x, v) -> x.step(0, 1, 0, v));
        sentence(18, "SHARES of a STEP come to a ROW (anew): that of the WORD itself.");
        PadRound y = evening();
        due("to a missing ROW", y.step(0, 1, 1, 5), 20);
        holds("to a missing ROW", y, 5, 4, 20);
        due("to a longer ROW", y.step(1, 0, 0, 4), 24);
        holds("to a longer ROW", y, 4, 24, 0);
        due("to an empty ROW", y.step(0, 4, 0, 3), 24);
        holds("TURNED: all 24 to his FAVOURITE", y, 3, 24, 0);
        due("the WORD itself has none", y.step(0, 4, 1, 3), 0);
    }

    private static void comes() {
        sentence(19, "BAD; NOTHING; SIZE: not 2 to 8, an even number; UNLIKE: no PLAYER, or twice.");
        bad("comes, a WORD", NO_WORD, (x, v) -> x.comes(5, v, 0));
        bad("comes, the other WORD", NO_WORD, (x, v) -> x.comes(5, 0, v));
        refuses("no WORDS at all", BAD, new PadRound(), x -> x.comes(0, 0, 0));
        tableRefusals("comes", (x, v) -> x.comes(v, 0, 1));
        for (int n = 2; n <= 8; n += 2) {
            taken("comes by " + n, evening(5, upTo(n)).comes(5, 0, 1));
        }
        sentence(0, "the first draws what the second guesses, the third draws that");
        PadRound y = sharpTable(4, true);
        due("the last one is wrong", y.comes(0, 0, 1), 1);
        tells("the last one is wrong", y, 1, 1);
        fill(y, 0, 0, 1, 3, 2);
        due("he only draws", y.comes(0, 0, 0), 1);
        tells("he only draws", y, 1, 1);
        y = plainTable(2);
        y.player(5, 0, 2, 0);
        fill(y, 0, 0, 2);
        due("a READER at the TABLE", y.comes(0, 0, 0), 1);
        tells("he knows who drew: 15 of 24", y, 5, 8);
        sentence(19, "(perhaps itself)");
        y = plainTable(2);
        due("to itself", y.comes(0, 0, 0), 1);
        tells("to itself", y, 7, 12);
    }

    private static void fractions() {
        sentence(0, "in lowest terms, the lower number above 0 (0 by 1)");
        PadRound y = sharpTable(4, true);
        y.comes(0, 0, 1);
        due("comes(0, 0, 0)", y.comes(0, 0, 0), 1);
        tells("it never comes HOME", y, 0, 1);
        y.comes(0, 0, 1);
        due("off(0, 0, 1, 0)", y.off(0, 0, 1, 0), 1);
        tells("it never goes OFF there", y, 0, 1);
        due("off(0, 0, 1, 1)", y.off(0, 0, 1, 1), 1);
        tells("it always goes OFF there", y, 1, 1);
        y = sharpTable(2, false);
        y.comes(0, 0, 0);
        due("was(0, 1, 0)", y.was(0, 1, 0), 1);
        tells("it never was", y, 0, 1);
        due("was(0, 1, 1)", y.was(0, 1, 1), 1);
        tells("it always was", y, 1, 1);
        y = world(SHARP, "w0010000000w0001000000");
        y.player(4, 0, 1, 1);
        y.player(4, 0, 1, 1);
        fill(y, 0, 1, 0);
        fill(y, 1, 0, 0);
        y.comes(0, 0, 1);
        due("kept(0, 1)", y.kept(0, 1), 0);
        tells("no PAD comes HOME", y, 0, 1);
        y.comes(0, 0, 1);
        due("seats(0, 1, 2)", y.seats(0, 1, 2), 1);
        tells("by no order", y, 0, 1);
        holds("by no order, the first", y, 2, 1, 0);
        y.comes(0, 0, 1);
        fill(y, 3, 2, 3);
        due("land(3)", y.land(3), 1);
        tells("of LAND 1 alone", y, 0, 1);
        fill(y, 3, 0);
        due("land(3)", y.land(3), 1);
        tells("of LAND 0 alone", y, 1, 1);
        y = world("w4000000000", "w3000000000");
        fill(y, 0, 0);
        due("land(0)", y.land(0), 1);
        tells("4 and 3, in lowest terms as they are", y, 4, 7);
        y = plainTable(8);
        due("comes by eight", y.comes(0, 0, 1), 1);
        tells("229840 of 331776", y, 14365, 20736);
    }

    private static void most() {
        sentence(20, "BAD; NOTHING; SIZE; UNLIKE as comes().");
        tableRefusals("most", PadRound::most);
        refuses("no PLAYERS", UNLIKE, twoPlaces(world(TWO)), x -> x.most(0));
        for (int n = 2; n <= 8; n += 2) {
            taken("most by " + n, evening(5, upTo(n)).most(5));
        }
        sentence(20, "is the greatest (of alike ones the first); that sum by upper(), lower().");
        PadRound y = sharpTable(2, false);
        due("alike", y.most(0), 0);
        tells("alike", y, 1, 1);
        y = sharpTable(2, true);
        due("all go to the last", y.most(0), 1);
        tells("all go to the last", y, 2, 1);
        y = world(EIGHT);
        y.player(0, 0, 1, 0);
        y.player(4, 0, 1, 7);
        fill(y, 0, 0, 1);
        // TURNED: PARTS 0, 1 are 9, 8, all 24 to WORD 7; PARTS 2 .. 7 are 7 .. 2.
        due("three go to WORD 7", y.most(0), 7);
        tells("three go to WORD 7", y, 3, 1);
    }

    private static PadRound twoPlaces(PadRound x) {
        fill(x, 0, 0, 1);
        return x;
    }

    private static void keeps() {
        sentence(21, "odds of a by b (1 .. 99; a no more than b) or more");
        int[][] wrongOdds = {{0, 1}, {-1, 1}, {LOW, 99}, {1, 0}, {0, 0}, {-1, -1}, {1, 100}, {99, 100}, {100, 100},
            {2, 1}, {99, 98}, {HIGH, HIGH}, {1, HIGH}, {HIGH, 1}, {1, LOW}};
        for (int[] odds : wrongOdds) {
            refuses("keeps by " + odds[0] + " by " + odds[1], BAD, evening(), x -> x.keeps(5, odds[0], odds[1]));
            refuses("keeps by " + odds[0] + " by " + odds[1], BAD, evening(), x -> x.keeps(0, odds[0], odds[1]));
        }
        PadRound y = plainTable(2);
        both("7 by 12 is enough", y, 3, 0, y.keeps(0, 7, 12));
        both("58 by 99 is a little more", y, 2, 0, y.keeps(0, 58, 99));
        both("5 by 6 is enough", y, 2, 0, y.keeps(0, 5, 6));
        both("81 by 97 is a little more", y, 0, 0, y.keeps(0, 81, 97));
        both("1 by 99", y, 3, 0, y.keeps(0, 1, 99));
        y = sharpTable(2, false);
        both("99 by 99", y, 3, 0, y.keeps(0, 99, 99));
        both("1 by 1", y, 3, 0, y.keeps(0, 1, 1));
        sentence(21, "the WORD of the least such odds (the first) by asked().");
        y = sharpTable(2, true);
        both("WORD 0 never keeps", y, 2, 0, y.keeps(0, 1, 99));
        y = world(EIGHT);
        y.player(0, 0, 1, 0);
        y.player(0, 0, 1, 0);
        y.player(4, 0, 1, 7);
        fill(y, 0, 0, 1);
        both("eight alike ones", y, 255, 0, y.keeps(0, 1, 1));
        y = world(SHARP.replace("w9", "w0000000005w9"));
        y.player(0, 0, 1, 0);
        y.player(2, 0, 1, 0);
        fill(y, 0, 0, 1);
        // FIXED: WORD 0 is sure, WORDS 1 and 2 have 12 each.
        both("the first of alike ones", y, 7, 1, y.keeps(0, 1, 2));
        sentence(21, "BAD; NOTHING; SIZE; UNLIKE.");
        tableRefusals("keeps", (x, v) -> x.keeps(v, 1, 2));
        for (int n = 2; n <= 8; n += 2) {
            taken("keeps by " + n, evening(5, upTo(n)).keeps(5, 1, 2));
        }
    }

    private static void was() {
        sentence(22, "BAD; NOTHING; SIZE; UNLIKE; NOUGHT: none comes to that.");
        bad("was, the last WORD", NO_WORD, (x, v) -> x.was(5, v, 0));
        bad("was, a WORD", NO_WORD, (x, v) -> x.was(5, 0, v));
        tableRefusals("was", (x, v) -> x.was(v, 0, 1));
        for (int n = 2; n <= 8; n += 2) {
            taken("was by " + n, evening(5, upTo(n)).was(5, 0, 1));
        }
        refuses("none comes to WORD 0", NOUGHT, sharpTable(2, true), x -> x.was(0, 0, 0));
        refuses("none comes to WORD 0", NOUGHT, sharpTable(2, true), x -> x.was(0, 0, 1));
        PadRound twice = sharpTable(2, true);
        fill(twice, 0, 0, 0);
        refuses("UNLIKE ahead of NOUGHT", UNLIKE, twice, x -> x.was(0, 0, 1));
        sentence(22, "(perhaps itself) at last (all WORDS as likely ahead)");
        PadRound y = sharpTable(2, true);
        due("was(0, 1, 1)", y.was(0, 1, 1), 1);
        tells("as likely", y, 1, 2);
        due("was(0, 1, 0)", y.was(0, 1, 0), 1);
        tells("as likely", y, 1, 2);
    }

    private static void off() {
        sentence(23, "BAD: also k not 0 .. 3, alike WORDS; NOTHING; SIZE; UNLIKE; BAD: no such STEP; NOUGHT");
        bad("off, a WORD", NO_WORD, (x, v) -> x.off(5, v, 0, 0));
        bad("off, the last WORD", NO_WORD, (x, v) -> x.off(5, 0, v, 0));
        bad("off, a STEP", new int[] {-1, 4, 5, LOW, HIGH}, (x, v) -> x.off(5, 0, 1, v));
        bad("off, alike WORDS", new int[] {0, 1}, (x, v) -> x.off(5, v, v, 0));
        for (int k = 0; k < 4; k++) {
            int step = k;
            tableRefusals("off at STEP " + k, (x, v) -> x.off(v, 0, 1, step));
        }
        sentence(23, "BAD: no such STEP; NOUGHT: it never comes to that. (In this order.)");
        for (int n = 2; n <= 8; n += 2) {
            for (int k = 0; k < 4; k++) {
                int step = k;
                String call = "off at STEP " + k + " of " + n;
                if (k < n / 2) {
                    due(call, plainTable(n).off(0, 0, 1, k), 1);
                    refuses(call + ", never", NOUGHT, sharpTable(n, false), x -> x.off(0, 0, 1, step));
                } else {
                    refuses(call, BAD, plainTable(n), x -> x.off(0, 0, 1, step));
                    refuses(call + ", never", BAD, sharpTable(n, false), x -> x.off(0, 0, 1, step));
                }
            }
        }
        sentence(0, "OFF it went at STEP k (0, 1, ..), if that is the first by which it came to another one.");
        PadRound y = world(SHARP);
        int[] says = {0, 1, 0, 0, 0, 1};
        for (int p = 0; p < 6; p++) {
            y.player(p % 2 == 0 ? 0 : 4, 0, 1, says[p]);
        }
        fill(y, 0, upTo(6));
        // WORD 0 comes to 1, HOME again, and to 1 at last.
        for (int k = 0; k < 3; k++) {
            due("off(0, 0, 1, " + k + ")", y.off(0, 0, 1, k), 1);
            tells("it was off from STEP 0 on", y, k == 0 ? 1 : 0, 1);
        }
        y = world(EIGHT);
        y.player(0, 0, 1, 0);
        y.player(4, 0, 1, 7);
        fill(y, 0, 0, 1);
        // Upside down PARTS 0, 1 are nowhere, and PART 2 is PART 7.
        due("eight WORDS, off(0, 0, 7, 0)", y.off(0, 0, 7, 0), 1);
        tells("eight WORDS", y, 1, 1);
        due("eight WORDS, off(0, 7, 2, 0)", y.off(0, 7, 2, 0), 1);
        tells("eight WORDS", y, 1, 1);
        refuses("eight WORDS, never", NOUGHT, y, x -> x.off(0, 7, 0, 0));
        y.player(0, 0, 1, 0);
        y.player(0, 0, 1, 0);
        fill(y, 0, 0, 2, 3, 1);
        for (int k = 0; k < 2; k++) {
            due("eight WORDS, off(0, 7, 2, " + k + ")", y.off(0, 7, 2, k), 1);
            tells("eight WORDS, it stayed by STEP 0", y, k, 1);
        }
        y = world(SHARP);
        for (int p = 0; p < 6; p++) {
            y.player(p % 2 == 0 ? 0 : 4, 0, 1, says[p]);
        }
        fill(y, 0, 2, 3, 0, 5);
        for (int k = 0; k < 2; k++) {
            due("off(0, 0, 1, " + k + ")", y.off(0, 0, 1, k), 1);
            tells("it stayed by STEP 0", y, k, 1);
        }
    }

    private static void kept() {
        sentence(24, "BAD; NOTHING: either; SIZE: also not as many; UNLIKE: also no WORD.");
        bad("kept, no PADS", NO_ROW, (x, v) -> x.kept(0, v));
        bad("kept, no PADS there", NO_ROW, (x, v) -> x.kept(v, 5));
        padsRefusals("kept", PadRound::kept);
        sentence(24, "the PAD (the first) of the greatest odds.");
        PadRound y = plainTable(4);
        fill(y, 1, 0, 0, 0, 0);
        due("alike ones", y.kept(0, 1), 0);
        tells("alike ones", y, 59, 36);
        fill(y, 1, 0, 0, 0, 1);
        due("the last", y.kept(0, 1), 3);
        tells("3 236 and 440 of 576", y, 287, 144);
        fill(y, 1, 0, 1, 1, 1);
        due("the first of three", y.kept(0, 1), 1);
    }

    interface OfPads {
        int call(PadRound x, int r, int pads);
    }

    /** An evening with a TABLE in ROW 5, its PADS in ROW 3. */
    private static PadRound padsAt(int[] table, int... pads) {
        PadRound x = evening(5, table);
        fill(x, 3, pads);
        x.at(4, 1);
        return x;
    }

    private static void padsRefusals(String name, OfPads f) {
        ToIntFunction<PadRound> call = x -> f.call(x, 5, 3);
        refuses(name + ", neither there", NOTHING, evening(), x -> f.call(x, 5, 5));
        refuses(name + ", no TABLE", NOTHING, evening(), x -> f.call(x, 5, 1));
        refuses(name + ", no TABLE, no PADS in it", NOTHING, evening(), x -> f.call(x, 5, 3));
        refuses(name + ", no PADS", NOTHING, evening(), x -> f.call(x, 0, 5));
        refuses(name + ", no PADS, nobody at the TABLE", NOTHING, evening(), x -> f.call(x, 3, 5));
        refuses(name + ", no PADS, one twice at the TABLE", NOTHING, evening(3, 1, 1), x -> f.call(x, 3, 5));
        for (int n : new int[] {0, 1, 3, 5, 7}) {
            refuses(name + " of " + n, SIZE, padsAt(upTo(n), new int[n]), call);
        }
        refuses(name + " of ten", SIZE, padsAt(new int[10], new int[10]), call);
        refuses(name + " of three, no WORDS", SIZE, padsAt(upTo(3), 2, 2, 2), call);
        refuses(name + " of none, one PAD of no WORD", SIZE, padsAt(upTo(0), 2), call);
        refuses(name + ", too few PADS", SIZE, padsAt(upTo(4), 0, 1, 0), call);
        refuses(name + ", too many PADS", SIZE, padsAt(upTo(4), 0, 1, 0, 1, 0), call);
        refuses(name + ", an empty ROW of PADS", SIZE, padsAt(upTo(2)), call);
        refuses(name + ", PADS for two more", SIZE, padsAt(upTo(4), 0, 1, 0, 1, 0, 1), call);
        refuses(name + ", too few PADS, one twice", SIZE, padsAt(new int[] {0, 0}, 1), call);
        refuses(name + ", too few PADS, no WORD", SIZE, padsAt(upTo(4), 2, 2, 2), call);
        for (int v : NO_WORD) {
            refuses(name + ", WORD " + v, UNLIKE, padsAt(upTo(4), v, 0, 1, 1), call);
            refuses(name + ", WORD " + v + " at last", UNLIKE, padsAt(upTo(4), 1, 0, 1, v), call);
        }
        for (int p : NO_PLAYER) {
            refuses(name + ", PLAYER " + p, UNLIKE, padsAt(new int[] {p, 1}, 0, 1), call);
            refuses(name + ", PLAYER " + p + " at last", UNLIKE, padsAt(new int[] {2, 0, 1, p}, 0, 1, 0, 1), call);
        }
        refuses(name + ", one twice", UNLIKE, padsAt(new int[] {3, 1, 2, 3}, 0, 1, 0, 1), call);
        for (int n = 2; n <= 6; n += 2) {
            taken(name + " by " + n, f.call(padsAt(upTo(n), new int[n]), 5, 3));
        }
    }

    private static void padsGoRound() {
        sentence(0, "PAD k (a WORD for each place, a ROW) goes by the PLAYERS from place k on, round.");
        int[] says = {0, 1, 1, 0, 1, 0, 0, 1};
        for (int n = 2; n <= 8; n += 2) {
            PadRound y = world(SHARP);
            // Who holds it upside down says always his FAVOURITE: it comes to that of the last one.
            for (int p = 0; p < n; p++) {
                y.player(4, 0, 1, says[p]);
            }
            fill(y, 0, upTo(n));
            int[] pads = new int[n];
            for (int k = 0; k < n; k++) {
                pads[k] = says[(k + n - 1) % n];
            }
            fill(y, 1, pads);
            due("all of " + n + " come HOME", y.kept(0, 1), 0);
            tells("all of " + n, y, n, 1);
            for (int k = 0; k < n; k++) {
                y.lay(1, k, 1 - pads[k]);
                due("all of " + n + " but PAD " + k, y.kept(0, 1), k == 0 ? 1 : 0);
                tells("all of " + n + " but PAD " + k, y, n - 1, 1);
                y.lay(1, k, pads[k]);
            }
        }
    }

    private static void seats() {
        sentence(25, "BAD; NOTHING; SIZE; UNLIKE as kept(); SPENT: 8. (SPENT last.)");
        bad("seats of a TABLE", NO_ROW, (x, v) -> x.seats(v, 5, 5));
        bad("seats by PADS", NO_ROW, (x, v) -> x.seats(5, v, 5));
        bad("seats to a ROW", NO_ROW, (x, v) -> x.seats(5, 5, v));
        padsRefusals("seats", (x, r, pads) -> x.seats(r, pads, 2));
        refuses("eight", SPENT, padsAt(upTo(8), new int[8]), x -> x.seats(5, 3, 2));
        refuses("eight, one twice", UNLIKE, padsAt(new int[] {0, 1, 2, 3, 4, 5, 6, 0}, new int[8]),
                x -> x.seats(5, 3, 2));
        refuses("eight, no WORD", UNLIKE, padsAt(upTo(8), 0, 0, 0, 0, 0, 0, 0, 2), x -> x.seats(5, 3, 2));
        refuses("eight, seven PADS", SIZE, padsAt(upTo(8), new int[7]), x -> x.seats(5, 3, 2));
        refuses("eight, no PADS", NOTHING, evening(3, upTo(8)), x -> x.seats(3, 5, 2));
        refuses("eight, no ROW to come to", BAD, padsAt(upTo(8), new int[8]), x -> x.seats(5, 3, 6));
        due("kept() takes eight", padsAt(upTo(8), new int[8]).kept(5, 3) >= 0 ? 1 : 0, 1);
        sentence(25, "the first one staying, by which KEPT of PADS (that stay at their places) is the greatest");
        PadRound y = sharpTable(6, false);
        fill(y, 0, 5, 4);
        fill(y, 1, 0, 1);
        due("two", y.seats(0, 1, 2), 1);
        holds("the first one stays", y, 2, 5, 4);
        tells("two", y, 2, 1);
        sentence(25, "(of alike ones the first, by PLAYERS' numbers) comes to a ROW (anew)");
        fill(y, 0, 2, 5, 4, 0);
        fill(y, 1, 0, 1, 1, 0);
        due("four, all alike", y.seats(0, 1, 5), 6);
        holds("four, all alike, to a missing ROW", y, 5, 2, 0, 4, 5);
        holds("the TABLE stays", y, 0, 2, 5, 4, 0);
        fill(y, 0, 3, 5, 4, 2, 1, 0);
        fill(y, 1, 0, 1, 1, 0, 1, 1);
        due("six, all alike, to the TABLE itself", y.seats(0, 1, 0), 120);
        holds("six, all alike", y, 0, 3, 0, 1, 2, 4, 5);
        tells("six, all alike", y, 6, 1);
        y = world(EIGHT);
        for (int p = 0; p < 8; p++) {
            y.player(0, 0, 1, 1);
        }
        for (int w = 0; w < 8; w += 7) {
            fill(y, 0, 0, 5, 4, 3, 2, 1);
            fill(y, 1, w, w, w, w, w, w);
            due("six, eight WORDS", y.seats(0, 1, 2), 120);
            holds("six, eight WORDS", y, 2, 0, 1, 2, 3, 4, 5);
            tells("six, eight WORDS", y, 6, 1);
        }
        y = sharpTable(4, true);
        fill(y, 0, 0, 1, 2, 3);
        fill(y, 1, 0, 1, 0, 1);
        // PLAYER 3 says always 1: wrong of the PADS 0 at places 1 and 3, of none at place 2.
        due("one seat is better", y.seats(0, 1, 1), 2);
        holds("one seat is better, to the PADS", y, 1, 0, 1, 3, 2);
        tells("one seat is better", y, 4, 1);
    }

    private static void parts() {
        sentence(26, "The n (1 .. 6) PARTS (bits)");
        bad("parts of one", NO_PLAYER, (x, v) -> x.parts(v, 0, 1));
        bad("parts of a WORD", NO_WORD, (x, v) -> x.parts(0, v, 1));
        bad("parts, n", new int[] {0, -1, 7, 10, LOW, HIGH}, (x, v) -> x.parts(0, 0, v));
        PadRound y = world("w0000000009w9000000000");
        y.player(0, 0, 1, 0);
        y.player(0, 0, 1, 1);
        y.player(3, 0, 1, 1);
        y.player(4, 0, 1, 1);
        y.player(2, 0, 1, 1);
        sentence(26, "(of alike ones the least bits); that SHARE by asked().");
        for (int n = 1; n <= 6; n++) {
            // PARTS that are nowhere are his FAVOURITE as well.
            both("the least bits but PART 0, n " + n, y, ((1 << n) - 1) * 2, 24, y.parts(0, 0, n));
            both("PART 9 is wanted, n " + n, y, 512 + ((1 << n - 1) - 1) * 2, 24, y.parts(1, 0, n));
        }
        sentence(26, "drawn the least number first, not known by whom");
        both("PARTED, PART 9 alone", y, 512, 24, y.parts(2, 0, 1));
        both("PARTED, PART 9 never comes first", y, 3, 0, y.parts(2, 0, 2));
        both("TURNED, PART 0 is PART 9", y, 1, 24, y.parts(3, 0, 1));
        both("FIXED: 9 against 9", y, 512, 12, y.parts(4, 0, 1));
        y = world("w5000000000w6000980000");
        y.player(5, 0, 2, 1);
        both("a READER, SUMS 5, 6", y, 1, 10, y.parts(0, 0, 1));
        y = world("w0000000001");
        y.player(0, 0, 1, 0);
        both("one WORD alone", y, 63, 24, y.parts(0, 0, 6));
        y = world("w1111111111w1111111111");
        y.player(0, 0, 1, 0);
        for (int n = 1; n <= 6; n++) {
            both("all alike, n " + n, y, (1 << n) - 1, 12, y.parts(0, 0, n));
        }
    }

    private static void few() {
        sentence(27, "a SHARE of a WORD of s (1 .. 24) or more");
        bad("few of one", NO_PLAYER, (x, v) -> x.few(v, 0, 1));
        bad("few of a WORD", NO_WORD, (x, v) -> x.few(0, v, 1));
        bad("few, s", new int[] {0, -1, 25, LOW, HIGH}, (x, v) -> x.few(0, 0, v));
        PadRound y = world("w1111110000w0000000001");
        y.player(2, 0, 1, 1);
        y.player(0, 0, 1, 1);
        // FIXED: n by n and 9 of 24, cut: 2 4 6 7 8 9.
        int[] fewest = {0, 1, 1, 2, 2, 3, 3, 4, 5, 6, NONE};
        for (int s = 1; s <= 10; s++) {
            due("few(0, 0, " + s + ")", y.few(0, 0, s), fewest[s]);
        }
        sentence(27, "these (the least bits) by asked(). NONE: by none.");
        both("four", y, 4, 15, y.few(0, 0, 7));
        refuses("none have 24", NONE, y, x -> x.few(0, 0, 24));
        refuses("seven would do", NONE, y, x -> x.few(0, 0, 10));
        both("one has 24", y, 1, 1, y.few(1, 0, 24));
        both("PARTS that are nowhere", y, 1, 64, y.few(1, 1, 1));
        PadRound alike = world("w1111111111w1111111111");
        alike.player(0, 0, 1, 0);
        both("all alike", alike, 1, 1, alike.few(0, 0, 12));
        refuses("no PARTS at all would do", NONE, alike, x -> x.few(0, 0, 13));
        sentence(27, "by which, so drawn, a PLAYER has a SHARE");
        PadRound reader = world("w5000000000w6000980000");
        reader.player(5, 0, 2, 1);
        both("a READER, SUMS 5, 6", reader, 1, 1, reader.few(0, 0, 10));
        refuses("a READER does not know by whom", NONE, reader, x -> x.few(0, 0, 11));
        sentence(27, "The fewest PARTS (1 .. 6)");
        both("six, the last that may be", y, 6, 63, y.few(0, 0, 9));
    }

    private static void soon() {
        sentence(28, "BAD; NOTHING; SIZE; UNLIKE.");
        bad("soon of one", NO_PLAYER, (x, v) -> x.soon(v, 0, 5, 4));
        bad("soon a WORD", NO_WORD, (x, v) -> x.soon(0, v, 5, 4));
        bad("soon to a ROW", NO_ROW, (x, v) -> x.soon(0, 0, 5, v));
        drawnRefusals("soon", (x, v) -> x.soon(0, 0, v, 4));
        sentence(28, "NONE: by no order (the ROW stays).");
        refuses("to a ROW", NONE, evening(5, 2), x -> x.soon(0, 0, 5, 4));
        refuses("to a missing ROW", NONE, evening(), x -> x.soon(4, 1, 2, 5));
        refuses("to the ROW itself", NONE, evening(5, 2, 1), x -> x.soon(0, 0, 5, 5));
        sentence(28, "a PLAYER who watches (not known by whom)");
        PadRound reader = world("w5000000000w6000980000");
        reader.player(5, 0, 2, 1);
        fill(reader, 0, 0);
        refuses("a READER, SUMS 5, 6", NONE, reader, x -> x.soon(0, 0, 0, 1));
        due("a READER, SUMS 5, 6", reader.soon(0, 1, 0, 1), 1);
        sentence(28, "its SHARE is the greatest (the first of alike ones counts), k as little as may be");
        PadRound y = world("w1100000000w1100000000w0300000000");
        y.player(0, 0, 1, 2);
        fill(y, 0, 0);
        due("the first of alike ones", y.soon(0, 0, 0, 1), 1);
        holds("one PART", y, 1, 0);
        refuses("the second of alike ones", NONE, y, x -> x.soon(0, 1, 0, 1));
        fill(y, 0, 1, 0);
        // [0] is WORD 0, [1] and both are WORD 2.
        due("by one, by all of them", y.soon(0, 2, 0, 1), 1);
        holds("by one, by all of them", y, 1, 1, 0);
        refuses("by one, but not by all of them", NONE, y, x -> x.soon(0, 0, 0, 1));
        sentence(28, "it comes to a ROW (anew; the first by PARTS' numbers): k.");
        fill(y, 0, 9, 4, 8, 5, 1, 7);
        // PARTS that are nowhere are his FAVOURITE, WORD 2.
        due("six, by any order", y.soon(0, 2, 0, 5), 1);
        holds("six, by any order, to a missing ROW", y, 5, 1, 4, 5, 7, 8, 9);
        fill(y, 0, 9, 4, 8, 5, 0, 7);
        due("six, PART 0 ahead", y.soon(0, 0, 0, 0), 1);
        holds("six, PART 0 ahead, to the ROW itself", y, 0, 0, 4, 5, 7, 8, 9);
        y = world("w1111110000w6000000000w0600000000w0060000000w0006000000w0000600000w0000060000");
        y.player(0, 0, 1, 0);
        fill(y, 0, 5, 4, 3, 2, 1, 0);
        due("all six are wanted", y.soon(0, 0, 0, 1), 6);
        holds("all six are wanted", y, 1, 0, 1, 2, 3, 4, 5);
        y = world("w3333330000w6033330000w3603330000w3360330000w3336030000w3333600000");
        y.player(0, 0, 1, 1);
        fill(y, 0, 0, 1, 2, 3, 4, 5);
        // Each PART but 5 is a WORD's of its own, until the one above it has come.
        due("the last of all orders", y.soon(0, 0, 0, 1), 1);
        holds("the last of all orders", y, 1, 5, 4, 3, 2, 1, 0);
    }

    private static void common() {
        sentence(29, "PARTS (bits) that are USUAL by v (1 .. 9) or more in a WORD in both LANDS");
        int[] noFigure = {0, -1, 10, LOW, HIGH};
        int[] never = {-1, 8, LOW, HIGH};
        bad("common, v", noFigure, (x, v) -> x.common(0, v));
        for (int v : noFigure) {
            refuses("common by " + v + ", no BOX", BAD, new PadRound(), x -> x.common(0, v));
        }
        PadRound y = world("w0123456789", "w9876543210");
        both("by 1", y, 0b0111111110, 0b1000000001, y.common(0, 1));
        both("by 4", y, 0b0000110000, 0b1111001111, y.common(0, 4));
        both("by 5", y, 0, 0b1111111111, y.common(0, 5));
        both("by 9", y, 0, 0b1000000001, y.common(0, 9));
        y = world("w9000000000", "w9000000000");
        both("9 in both", y, 1, 0, y.common(0, 9));
        sentence(29, "BAD (a WORD 0 .. 7); NOTHING: either BOX, or BOX 1 does not count; BAD: no such WORD. (In this order.)");
        for (int v : never) {
            refuses("WORD " + v + ", no BOX", BAD, new PadRound(), x -> x.common(v, 1));
        }
        refuses("WORD 7, no BOX", NOTHING, new PadRound(), x -> x.common(7, 1));
        refuses("WORD 7, no BOX 1", NOTHING, world(TWO), x -> x.common(7, 1));
        refuses("WORD 0, no BOX 1", NOTHING, world(TWO), x -> x.common(0, 1));
        PadRound abroad = new PadRound();
        write(abroad, 0, TWO);
        abroad.box(1, 0);
        refuses("WORD 7, no BOX 0", NOTHING, abroad, x -> x.common(7, 1));
        refuses("WORD 7, BOX 1 has more", NOTHING, world(TWO, HIDDEN), x -> x.common(7, 1));
        refuses("WORD 0, BOX 1 has fewer", NOTHING, world(HIDDEN, TWO), x -> x.common(0, 1));
        bad("common of a WORD", NO_WORD, (x, v) -> x.common(v, 1));
    }

    private static void land() {
        sentence(30, "BAD; NOTHING: the ROW, either BOX, or BOX 1 does not count; SIZE; UNLIKE; NOUGHT: in neither.");
        drawnRefusals("land", PadRound::land);
        int[][] rows = {{}, {0, 1, 2, 3, 4, 5, 6}, {1, 1}, {10}, {5}, {0}};
        for (int[] row : rows) {
            String of = "land of " + java.util.Arrays.toString(row);
            PadRound[] worlds = {new PadRound(), world(TWO), world(TWO, HIDDEN), world(HIDDEN, TWO), new PadRound()};
            write(worlds[4], 0, TWO);
            worlds[4].box(1, 0);
            for (PadRound y : worlds) {
                fill(y, 0, row);
                refuses(of + " without both BOXES", NOTHING, y, x -> x.land(0));
            }
        }
        refuses("in neither", NOUGHT, evening(5, 4, 5, 6, 7, 8), x -> x.land(5));
        refuses("UNLIKE ahead of NOUGHT", UNLIKE, evening(5, 4, 5, 4), x -> x.land(5));
        PadRound y = evening(5, 4, 9);
        due("in one of them, by one PART", y.land(5), 1);
        tells("in one of them", y, 0, 1);
    }
}
