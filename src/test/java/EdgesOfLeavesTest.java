import java.math.BigInteger;
import java.util.ArrayList;
import java.util.List;
import java.util.function.ToIntFunction;

/**
 * The boundary cases that the document names in promises 31 to 49: each sentence is quoted,
 * and the tests below it fail if it is broken.
 */
public final class EdgesOfLeavesTest extends Checks {
    public static void main(String[] args) {
        leaf();
        guessed();
        told();
        back();
        hand();
        guesser();
        machine();
        held();
        sign();
        stranger();
        image();
        on();
        asked();
        fractionTold();
        tellsNoFraction();
        count();
        findings();
        digest();
        end("leaves, signs, images, what is told: each edge is kept");
    }

    /** Two plain ones with twelve LEAVES, the odd ones guesses; ROW 1 is a DRAWN row. */
    private static PadRound twelve() {
        PadRound x = plainTable(2);
        fill(x, 1, 0, 1);
        for (int e = 0; e < 12; e++) {
            int got = e % 2 == 0 ? x.leaf(0, 0, 1) : x.guessed(1, 1, NONE, 0);
            due("LEAF " + e, got, e);
        }
        return x;
    }

    private static PadRound twelve(int... row) {
        PadRound x = twelve();
        fill(x, 5, row);
        return x;
    }

    private static void leaf() {
        sentence(31, "A LEAF of a drawing: its number. BAD; NOTHING; SIZE; UNLIKE; FULL. (In this order.)");
        bad("leaf of one", NO_PLAYER, (x, v) -> x.leaf(v, 0, 5));
        bad("leaf of a WORD", NO_WORD, (x, v) -> x.leaf(0, v, 5));
        drawnRefusals("leaf", (x, v) -> x.leaf(0, 0, v));
        sentence(0, "LEAVES 0, 1, .. (12 at most)");
        refuses("a thirteenth", FULL, twelve(), x -> x.leaf(0, 0, 1));
        refuses("a thirteenth of nobody", BAD, twelve(), x -> x.leaf(2, 0, 1));
        refuses("a thirteenth of no WORD", BAD, twelve(), x -> x.leaf(0, 2, 1));
        refuses("a thirteenth of ROW 6", BAD, twelve(), x -> x.leaf(0, 0, 6));
        refuses("a thirteenth of no ROW", NOTHING, twelve(), x -> x.leaf(0, 0, 5));
        refuses("a thirteenth of no PARTS", SIZE, twelve(new int[0]), x -> x.leaf(0, 0, 5));
        refuses("a thirteenth of seven PARTS", SIZE, twelve(upTo(7)), x -> x.leaf(0, 0, 5));
        refuses("a thirteenth of PART 10", UNLIKE, twelve(10), x -> x.leaf(0, 0, 5));
        refuses("a thirteenth of a PART twice", UNLIKE, twelve(3, 3), x -> x.leaf(0, 0, 5));
        PadRound y = twelve();
        y.back(11);
        due("room again", y.leaf(1, 1, 1), 11);
        refuses("and none again", FULL, y, x -> x.leaf(0, 0, 1));
    }

    private static void guessed() {
        sentence(32, "A LEAF of a guess: its number. BAD; NOTHING; SIZE; UNLIKE; FULL. (In this order.)");
        bad("guessed by one", NO_PLAYER, (x, v) -> x.guessed(v, 5, NONE, 0));
        bad("guessed, drawn by one", new int[] {-1, -8, -10, 8, LOW, HIGH}, (x, v) -> x.guessed(0, 5, v, 0));
        bad("guessed a WORD", NO_WORD, (x, v) -> x.guessed(0, 5, NONE, v));
        drawnRefusals("guessed", (x, v) -> x.guessed(0, v, 0, 0));
        refuses("a thirteenth", FULL, twelve(), x -> x.guessed(0, 1, NONE, 0));
        refuses("a thirteenth of nobody", BAD, twelve(), x -> x.guessed(2, 1, NONE, 0));
        refuses("a thirteenth by nobody", BAD, twelve(), x -> x.guessed(0, 1, 2, 0));
        refuses("a thirteenth of no WORD", BAD, twelve(), x -> x.guessed(0, 1, NONE, 2));
        refuses("a thirteenth of no ROW", NOTHING, twelve(), x -> x.guessed(0, 5, NONE, 0));
        refuses("a thirteenth of no PARTS", SIZE, twelve(new int[0]), x -> x.guessed(0, 5, NONE, 0));
        refuses("a thirteenth of PART 10", UNLIKE, twelve(10), x -> x.guessed(0, 5, NONE, 0));
        sentence(0, "a guess: a PLAYER, DRAWN PARTS, by whom (NONE: not known), a WORD.");
        PadRound y = evening();
        due("by himself", y.guessed(7, 2, 7, 1), 3);
        due("not known", y.guessed(7, 2, NONE, 1), 4);
        asks("told(3, 4)", y, 7, y.told(3, 4));
        asks("told(4, 4)", y, NONE, y.told(4, 4));
    }

    private static void told() {
        sentence(33, "BAD.");
        bad("told of a LEAF", new int[] {-1, 3, 12, LOW, HIGH}, (x, v) -> x.told(v, 0));
        bad("told, what", new int[] {-1, 5, LOW, HIGH}, (x, v) -> x.told(0, v));
        refuses("no LEAVES", BAD, plainTable(2), x -> x.told(0, 0));
        PadRound y = twelve();
        asks("the last of twelve", y, 1, y.told(11, 0));
        refuses("LEAF 12", BAD, y, x -> x.told(12, 0));
        y.back(11);
        refuses("one that went", BAD, y, x -> x.told(11, 0));
        sentence(33, "3 PARTS (bits), 4 by whom (NONE; a drawing: NONE)");
        y = evening(5, 9, 0);
        y.leaf(3, 1, 5);
        asks("PARTS 0 and 9", y, 513, y.told(3, 3));
        asks("a drawing", y, NONE, y.told(3, 4));
        fill(y, 5, 1);
        asks("it stays when the ROW goes", y, 513, y.told(3, 3));
    }

    private static void back() {
        sentence(34, "LEAVES from number n on (0 to how many there are: none then) go: how many went. BAD.");
        bad("back", new int[] {-1, 4, 12, NONE, LOW, HIGH}, PadRound::back);
        PadRound y = evening();
        due("none go", y.back(3), 0);
        due("three stay", y.count(4), 3);
        due("one goes", y.back(2), 1);
        refuses("beyond", BAD, y, x -> x.back(3));
        due("all go", y.back(0), 2);
        due("no LEAVES", y.count(4), 0);
        due("none of none", y.back(0), 0);
        refuses("beyond none", BAD, y, x -> x.back(1));
        y = twelve();
        due("none of twelve", y.back(12), 0);
        refuses("thirteen", BAD, y, x -> x.back(13));
        due("all twelve", y.back(0), 12);
    }

    private static void hand() {
        sentence(35, "BAD; NOUGHT: no LEAVES of drawings of his.");
        bad("hand of one", NO_PLAYER, PadRound::hand);
        refuses("nothing of his", NOUGHT, evening(), x -> x.hand(2));
        refuses("a guess of his alone", NOUGHT, evening(), x -> x.hand(5));
        PadRound y = evening();
        y.back(0);
        refuses("no LEAVES", NOUGHT, y, x -> x.hand(0));
        sentence(35, "The KIND that is least OFF a PLAYER (of alike ones the first); how far by asked().");
        y = world("w3210000000");
        for (int p = 0; p < 3; p++) {
            y.player(5 - p, 0, p + 1, 0);
        }
        fill(y, 0, 0);
        y.leaf(0, 0, 0);
        // Of 1 PART a SLOPPY one draws 1 as well.
        both("all alike", y, 0, 0, y.hand(0));
        y.leaf(1, 0, 0);
        both("SLOPPY and TURNED alike", y, 1, 0, y.hand(1));
        fill(y, 0, 2, 1, 0);
        y.leaf(2, 0, 0);
        both("in any order", y, 0, 0, y.hand(2));
        fill(y, 0, 4, 5, 6, 7, 8, 9);
        y.leaf(2, 0, 0);
        both("all together: 0 and 9, or 1 and 8", y, 0, 9, y.hand(2));
        y.leaf(2, 0, 0);
        both("18, or 17", y, 1, 17, y.hand(2));
        y.back(0);
        y.leaf(1, 0, 0);
        both("by LEAF 0 alone: 8, or 7", y, 1, 7, y.hand(1));
    }

    private static void guesser() {
        sentence(36, "BAD; SPENT: more than 8; NOUGHT: no LEAVES of guesses of his, or all are 0. (SPENT ahead of NOUGHT.)");
        bad("guesser, one", NO_PLAYER, PadRound::guesser);
        refuses("nothing of his", NOUGHT, evening(), x -> x.guesser(2));
        refuses("a drawing of his alone", NOUGHT, evening(), x -> x.guesser(0));
        PadRound y = plainTable(2);
        fill(y, 1, 0);
        for (int e = 0; e < 8; e++) {
            y.guessed(0, 1, NONE, 0);
        }
        y.guessed(1, 1, NONE, 0);
        y.leaf(0, 0, 1);
        due("eight of his, one of another's, a drawing", y.guesser(0), 0);
        tells("24 to the power of 8 each", y, 1, 6);
        y.guessed(0, 1, NONE, 1);
        refuses("nine of his, all are 0", SPENT, y, x -> x.guesser(0));
        due("the other's", y.guesser(1), 0);
        y.back(0);
        y.guessed(0, 1, NONE, 1);
        refuses("all are 0", NOUGHT, y, x -> x.guesser(0));
        for (int e = 0; e < 7; e++) {
            y.guessed(0, 1, NONE, 0);
        }
        refuses("eight of them, all are 0", NOUGHT, y, x -> x.guesser(0));
        y.guessed(0, 1, NONE, 0);
        refuses("nine of them, all are 0", SPENT, y, x -> x.guesser(0));
        y.back(0);
        for (int e = 0; e < 12; e++) {
            y.guessed(0, 1, NONE, 0);
        }
        refuses("twelve", SPENT, y, x -> x.guesser(0));
        refuses("twelve of another's", NOUGHT, y, x -> x.guesser(1));
        sentence(36, "(of alike ones the first); its part of all six together by upper(), lower().");
        y = world("w1000000000w1000000000");
        y.player(3, 0, 1, 1);
        fill(y, 1, 0);
        y.guessed(0, 1, NONE, 1);
        // SUMS 1, 1: 12 each; FIXED 1, 10: 22; TURNED: all 24.
        due("TURNED", y.guesser(0), 4);
        tells("12 12 22 12 24 12", y, 12, 47);
        y.guessed(0, 1, NONE, 0);
        due("the first of alike ones", y.guesser(0), 0);
        tells("144 144 44 144 0 144", y, 36, 155);
        y.back(0);
        fill(y, 1, 9);
        y.guessed(0, 1, NONE, 1);
        due("all but a TURNED one are sure", y.guesser(0), 0);
        tells("24 24 24 24 12 24", y, 2, 11);
        y.back(0);
        y.guessed(0, 1, 0, 0);
        due("a TURNED one alone", y.guesser(0), 4);
        tells("0 0 0 0 12 0", y, 1, 1);
        y = world("w9000000009w0000000001w0000000009");
        y.player(0, 0, 1, 0);
        fill(y, 1, 0);
        y.guessed(0, 1, NONE, 1);
        // Upside down SUMS are 9, 1, 9; else WORD 0 is sure.
        due("the least SHARE that there is", y.guesser(0), 4);
        tells("0 0 0 0 1 0", y, 1, 1);
    }

    private static void machine() {
        sentence(37, "BAD; NOTHING; SIZE; UNLIKE; NOUGHT: no LEAVES of drawings.");
        drawnRefusals("machine", PadRound::machine);
        PadRound[] none = {plainTable(2), plainTable(2)};
        fill(none[1], 1, 3);
        none[1].guessed(0, 1, NONE, 0);
        for (PadRound y : none) {
            refuses("NOTHING ahead of NOUGHT", NOTHING, y, x -> x.machine(5));
            fill(y, 5);
            refuses("SIZE ahead of NOUGHT", SIZE, y, x -> x.machine(5));
            fill(y, 5, 2, 2);
            refuses("UNLIKE ahead of NOUGHT", UNLIKE, y, x -> x.machine(5));
            fill(y, 5, 2);
            refuses("no LEAVES of drawings", NOUGHT, y, x -> x.machine(5));
            refuses("BAD ahead of NOUGHT", BAD, y, x -> x.machine(6));
        }
        sentence(0, "whose PARTS are least unlike (as sets; of alike ones the first)");
        PadRound y = plainTable(2);
        fill(y, 1, 0, 1, 2, 3, 4, 5);
        y.leaf(0, 1, 1);
        fill(y, 1, 9);
        both("as unlike as may be by seven", y, 1, 7, y.machine(1));
        fill(y, 1, 6, 7, 8, 9);
        both("ten unlike PARTS", y, 1, 10, y.machine(1));
        fill(y, 1, 5, 4, 3, 2, 1, 0);
        y.leaf(1, 0, 1);
        both("the first of alike ones", y, 1, 0, y.machine(1));
        fill(y, 1, 0, 1, 2, 3, 4);
        y.guessed(1, 1, NONE, 0);
        both("a guess does not count", y, 1, 1, y.machine(1));
        y.leaf(0, 0, 1);
        both("the least unlike, though last", y, 0, 0, y.machine(1));
    }

    private static void held() {
        sentence(38, "NOUGHT: there are fewer than two.");
        refuses("no LEAVES", NOUGHT, new PadRound(), PadRound::held);
        PadRound y = plainTable(2);
        fill(y, 1, 3);
        y.guessed(0, 1, NONE, 0);
        y.guessed(1, 1, NONE, 0);
        refuses("guesses alone", NOUGHT, y, PadRound::held);
        y.leaf(0, 0, 1);
        refuses("one", NOUGHT, y, PadRound::held);
        fill(y, 1, 0, 1, 2, 4, 5);
        y.leaf(1, 0, 1);
        both("two", y, 2, 2, y.held());
        y.back(3);
        y.leaf(1, 1, 1);
        both("two, neither has the WORD", y, 0, 2, y.held());
        sentence(0, "It is HELD against a LEAF of a drawing by all other ones.");
        y = plainTable(2);
        fill(y, 1, 3, 4);
        y.leaf(0, 0, 1);
        y.leaf(0, 1, 1);
        y.leaf(1, 1, 1);
        // LEAF 0 is nearest to 1; 1 and 2 to LEAF 0, the first of alike ones.
        both("three alike", y, 0, 3, y.held());
        y.leaf(1, 0, 1);
        both("the last one has LEAF 0", y, 1, 4, y.held());
        y = plainTable(2);
        fill(y, 1, 6);
        for (int e = 0; e < 12; e++) {
            y.leaf(0, 1, 1);
        }
        both("twelve", y, 12, 12, y.held());
    }

    private static void sign() {
        sentence(39, "The SIGN of two unlike PLAYERS for a WORD after n (0 .. 9) WEEKS");
        bad("sign of one", NO_PLAYER, (x, v) -> x.sign(v, 1, 0, 0, 5));
        bad("sign to another", NO_PLAYER, (x, v) -> x.sign(0, v, 0, 0, 5));
        bad("sign of one and himself", upTo(8), (x, v) -> x.sign(v, v, 0, 0, 5));
        bad("sign for a WORD", NO_WORD, (x, v) -> x.sign(0, 1, v, 0, 5));
        bad("sign after WEEKS", new int[] {-1, 10, LOW, HIGH}, (x, v) -> x.sign(0, 1, 0, v, 5));
        bad("sign to a ROW", NO_ROW, (x, v) -> x.sign(0, 1, 0, 0, v));
        sentence(0, "each WEEK the last PART is left out, if one is left then");
        PadRound y = world("w9876543210");
        y.player(0, 0, 6, 0);
        y.player(0, 0, 6, 0);
        for (int n = 0; n <= 9; n++) {
            due("WEEK " + n, y.sign(0, 1, 0, n, n % 2 == 0 ? 4 : 5), Math.max(1, 6 - n));
            holds("WEEK " + n, y, n % 2 == 0 ? 4 : 5, upTo(Math.max(1, 6 - n)));
        }
        sentence(0, "still has a SHARE of 12 or more for the WORD; else it stays as it is for ever");
        String[] homes = {"w5400000000w5010000000", "w5400000000w6010000000", "w0540000000w0001000000"};
        int[] after = {1, 2, 1};
        for (int i = 0; i < homes.length; i++) {
            y = world(homes[i]);
            y.player(0, 0, 2, 0);
            y.player(0, 0, 2, 1);
            // By [0] SUMS 5, 5: 12; 5, 6: 10; and by [1] 5, 0: all 24.
            for (int n = 0; n <= 9; n++) {
                due("BOX " + i + ", WEEK " + n, y.sign(0, 1, 0, n, 5), n == 0 ? 2 : after[i]);
            }
        }
        // By [0, 1] SUMS 9, 11 are 10 of 24, though [0] alone would do again.
        y = world("w5430000000w2900000000");
        y.player(0, 0, 3, 0);
        y.player(0, 0, 2, 1);
        for (int n = 0; n <= 9; n++) {
            due("it stays for ever, WEEK " + n, y.sign(0, 1, 0, n, 5), 3);
        }
        sentence(0, "the other one (who knows by whom)");
        y = world("w5400000000w6010000000");
        y.player(0, 0, 2, 0);
        y.player(5, 0, 2, 1);
        // By [0] SUMS 9, 10 are 11 and 13; of WORD 1 18, 9.
        due("4 more for both", y.sign(0, 1, 0, 9, 5), 2);
        y = world("w5400000000w6000980000");
        y.player(0, 0, 2, 0);
        y.player(5, 0, 2, 1);
        due("4 more for one: 9, 6", y.sign(0, 1, 0, 9, 5), 1);
    }

    private static void stranger() {
        sentence(40, "a third PLAYER (unlike both)");
        bad("stranger, one", NO_PLAYER, (x, v) -> x.stranger(v, 1, 0, 2));
        bad("stranger, another", NO_PLAYER, (x, v) -> x.stranger(0, v, 0, 2));
        bad("stranger, the third", NO_PLAYER, (x, v) -> x.stranger(0, 1, 0, v));
        bad("stranger, a WORD", NO_WORD, (x, v) -> x.stranger(0, 1, v, 2));
        bad("stranger, the first two alike", upTo(8), (x, v) -> x.stranger(v, v, 0, v == 2 ? 3 : 2));
        bad("stranger, the third is the first", upTo(8), (x, v) -> x.stranger(v, v == 2 ? 3 : 2, 0, v));
        bad("stranger, the third is the other", upTo(8), (x, v) -> x.stranger(v == 2 ? 3 : 2, v, 0, v));
        bad("stranger, all alike", upTo(8), (x, v) -> x.stranger(v, v, 0, v));
        sentence(40, "The first WEEK (0 .. 9) at which");
        int[] only = {7, 5, 4, 3, 2, 1};
        for (int week = 0; week < 6; week++) {
            char[] abroad = "w0000000000w0000000001".toCharArray();
            abroad[1 + only[week]] = '1';
            PadRound z = world("w9876540000w0000000001", new String(abroad));
            z.player(0, 0, 6, 0);
            z.player(0, 0, 6, 0);
            z.player(0, 1, 1, 1);
            // He knows WORD 0 by a PART that is left out in that WEEK, else it is his FAVOURITE.
            both("WEEK " + week, z, week, 1, z.stranger(0, 1, 0, 2));
        }
        PadRound y = world("w9876540000w0000000001");
        y.player(0, 0, 6, 0);
        y.player(0, 0, 6, 0);
        y.player(0, 0, 6, 1);
        y.player(4, 0, 6, 1);
        sentence(40, "the WORD of his greatest SHARE then by asked(). NONE: none.");
        // TURNED: by [0 .. 3] PARTS 9 .. 6, one of which is of WORD 1 alone.
        both("held upside down", y, 2, 1, y.stranger(1, 0, 0, 3));
        refuses("he reads it to the end", NONE, y, x -> x.stranger(0, 1, 0, 2));
        sentence(40, "has no greatest SHARE for its WORD (the first of alike ones counts)");
        y = world("w9000000000w9000000000");
        y.player(0, 0, 1, 0);
        y.player(0, 0, 1, 0);
        y.player(0, 0, 1, 0);
        refuses("the first of alike ones", NONE, y, x -> x.stranger(0, 1, 0, 2));
        both("the second of alike ones", y, 0, 0, y.stranger(0, 1, 1, 2));
        sentence(40, "not knowing by whom");
        y = world("w5400000000w6000980000");
        y.player(0, 0, 1, 0);
        y.player(0, 0, 1, 0);
        y.player(5, 0, 1, 0);
        both("a READER who does not know", y, 0, 1, y.stranger(0, 1, 0, 2));
    }

    private static void image() {
        sentence(41, "comes to a ROW (anew)");
        bad("image", NO_ROW, PadRound::image);
        PadRound y = new PadRound();
        due("of none, to a missing ROW", y.image(0), 0);
        holds("of none", y, 0);
        y = evening();
        due("of eight, to an empty ROW", y.image(3), 8);
        holds("of eight", y, 3, 20, 1021, 2020, 3021, 4020, 5021, 120, 5121);
        y.row(4, 40);
        due("of eight, to a longer ROW", y.image(4), 8);
        holds("of eight", y, 4, 20, 1021, 2020, 3021, 4020, 5021, 120, 5121);
        sentence(41, "of each 1000 times KIND, 100 times LAND, 10 times PARTS and FAVOURITE together");
        y = world(EIGHT, EIGHT);
        y.player(5, 1, 6, 7);
        y.player(0, 0, 1, 0);
        y.image(0);
        holds("the most and the least", y, 0, 5167, 10);
    }

    private static void on() {
        sentence(42, "BAD; NOTHING; SIZE: more than 8; UNLIKE: a number (as player() would not take it).");
        bad("on", NO_ROW, PadRound::on);
        refuses("no ROW", NOTHING, evening(), x -> x.on(5));
        refuses("nine", SIZE, evening(5, 10, 10, 10, 10, 10, 10, 10, 10, 10), x -> x.on(5));
        refuses("nine that are none", SIZE, evening(5, new int[9]), x -> x.on(5));
        refuses("forty", SIZE, evening(5, new int[40]), x -> x.on(5));
        int[] none = {0, 1, 9, -1, -10, -5161, 70, 80, 90, 12, 17, 18, 19, 100, 101, 170, 112, 210, 910, 6010, 7010,
            9010, 10010, 15161, 65546, LOW, LOW + 10, HIGH};
        for (int v : none) {
            refuses("on of " + v, UNLIKE, evening(5, v), x -> x.on(5));
            refuses("on of " + v + " at last", UNLIKE, evening(5, 10, 5161, v), x -> x.on(5));
        }
        PadRound alone = world(TWO, HIDDEN);
        fill(alone, 0, 110);
        refuses("BOX 1 does not count", UNLIKE, alone, x -> x.on(0));
        PadRound empty = new PadRound();
        fill(empty, 0, 10);
        refuses("no BOX", UNLIKE, empty, x -> x.on(0));
        sentence(42, "PLAYERS are as an image in a ROW tells (LEAVES go): how many.");
        PadRound y = evening(5);
        due("none", y.on(5), 0);
        due("no PLAYERS", y.count(2), 0);
        due("no LEAVES", y.count(4), 0);
        y = evening(5, 5161, 10, 10, 10, 10, 10, 10, 4061);
        due("eight", y.on(5), 8);
        due("no LEAVES", y.count(4), 0);
        due("an image of them", y.image(5), 8);
        holds("an image of them", y, 5, 5161, 10, 10, 10, 10, 10, 10, 4061);
        refuses("a ninth", FULL, y, x -> x.player(0, 0, 1, 0));
        y = evening(5, 161);
        due("one in place of eight", y.on(5), 1);
        refuses("the second went", BAD, y, x -> x.about(1, 0));
        due("a second one", y.player(1, 0, 1, 0), 1);
        y = world(EIGHT, EIGHT);
        fill(y, 0, 5167);
        due("the most", y.on(0), 1);
        asks("his FAVOURITE", y, 7, y.about(0, 3));
        fill(y, 0, 5168);
        refuses("FAVOURITE 8", UNLIKE, y, x -> x.on(0));
    }

    private static void tellsBy(String call, int told, ToIntFunction<PadRound> f) {
        PadRound y = evening();
        f.applyAsInt(y);
        due(call + ", then asked()", y.asked(), told);
    }

    private static void asked() {
        sentence(43, "0 before.");
        due("asked()", new PadRound().asked(), 0);
        sentence(43, "lay(), at(), mean(), about(), keeps(), parts(), few(), common(), told(), hand(), machine(), held(),");
        tellsBy("lay", 5, x -> x.lay(4, 0, 1));
        tellsBy("at", 9, x -> x.at(4, 2));
        tellsBy("mean", 30, x -> x.mean(4));
        tellsBy("about", 1, x -> x.about(7, 3));
        tellsBy("keeps", 1, x -> x.keeps(0, 1, 2));
        tellsBy("parts", 24, x -> x.parts(0, 0, 1));
        tellsBy("few", 1, x -> x.few(0, 0, 24));
        tellsBy("common", 514, x -> x.common(0, 2));
        tellsBy("told", 3, x -> x.told(0, 3));
        tellsBy("hand", 0, x -> x.hand(0));
        tellsBy("machine", 0, x -> x.machine(2));
        tellsBy("held", 2, PadRound::held);
        tellsBy("stranger", 0, x -> x.stranger(0, 1, 1, 4));
        sentence(43, "that was not refused (nor NONE) told");
        refuses("few", NONE, evening(), x -> x.few(2, 1, 24));
        refuses("stranger", NONE, evening(), x -> x.stranger(0, 1, 0, 4));
        List<ToIntFunction<PadRound>> others = List.of(x -> x.row(0, 3), x -> x.tear(0), x -> x.copy(0, 0, 1, 0, 2),
                x -> x.text(0, 3), x -> x.put(0, 0, 1), x -> x.fault(0), x -> x.box(0, 0), x -> x.usual(0, 0, 0),
                x -> x.player(0, 0, 1, 0), x -> x.mark(1, 1), x -> x.draws(0, 0, 0), x -> x.guess(0, 2, 0, 0),
                x -> x.step(0, 1, 0, 0), x -> x.comes(0, 0, 1), x -> x.most(0), x -> x.was(0, 0, 1),
                x -> x.off(0, 0, 1, 1), x -> x.kept(0, 1), x -> x.seats(0, 1, 0), x -> x.soon(0, 0, 2, 0),
                x -> x.land(2), x -> x.leaf(0, 0, 2), x -> x.guessed(0, 2, 0, 0), x -> x.back(1), x -> x.guesser(5),
                x -> x.sign(0, 1, 0, 1, 0), x -> x.image(0), x -> x.on(x.image(0) - 8), x -> (int) x.upper(),
                x -> (int) x.lower(), x -> x.count(0), x -> x.finding(), x -> x.findings(1), x -> (int) x.digest());
        for (int i = 0; i < others.size(); i++) {
            tellsBy("what tells otherwise, " + i, 77, others.get(i));
        }
    }

    private static void fractionTold() {
        sentence(44, "0 before.");
        due("upper()", new PadRound().upper(), 0);
        sentence(45, "1 before.");
        due("lower()", new PadRound().lower(), 1);
        sentence(44, "The upper number of the fraction that was told last");
        PadRound y = plainTable(2);
        fill(y, 1, 1, 1);
        y.comes(0, 0, 0);
        tells("comes()", y, 7, 12);
        y.kept(0, 1);
        tells("kept()", y, 5, 3);
        y.was(0, 0, 0);
        tells("was()", y, 7, 9);
        y.most(0);
        tells("most()", y, 5, 4);
        y.off(0, 0, 1, 0);
        tells("off()", y, 1, 1);
        y.seats(0, 1, 2);
        tells("seats()", y, 5, 3);
    }

    private static void tellsNoFraction() {
        sentence(44, "The upper number of the fraction that was told last");
        List<ToIntFunction<PadRound>> others = List.of(x -> x.row(0, 3), x -> x.lay(0, 0, 1), x -> x.at(0, 0),
                x -> x.tear(0), x -> x.copy(0, 0, 1, 0, 2), x -> x.mean(0), x -> x.text(0, 3), x -> x.put(0, 0, 1),
                x -> x.fault(0), x -> x.box(0, 0), x -> x.usual(0, 0, 0), x -> x.about(0, 0), x -> x.mark(1, 1),
                x -> x.mark(5, 5), x -> x.draws(0, 0, 0), x -> x.guess(0, 2, 0, 0), x -> x.step(0, 1, 0, 0),
                x -> x.keeps(0, 1, 2), x -> x.parts(0, 0, 2), x -> x.few(0, 0, 12), x -> x.few(2, 1, 24),
                x -> x.soon(0, 0, 2, 0), x -> x.common(0, 1), x -> x.leaf(0, 0, 2), x -> x.guessed(0, 2, 0, 0),
                x -> x.told(0, 0), x -> x.back(1), x -> x.hand(0), x -> x.machine(2), PadRound::held,
                x -> x.sign(0, 1, 0, 1, 0), x -> x.stranger(0, 1, 0, 2), x -> x.image(0), x -> x.on(x.image(0) - 8),
                x -> x.asked(), x -> x.count(0), x -> x.finding(), x -> x.findings(1), x -> (int) x.digest());
        for (int i = 0; i < others.size(); i++) {
            PadRound y = evening();
            others.get(i).applyAsInt(y);
            // PARTED: 14 24 and 10 6 of 576.
            tells("what tells no fraction, " + i, y, 11, 16);
        }
    }

    private static void count() {
        sentence(46, "BAD.");
        bad("count", new int[] {-1, 8, LOW, HIGH}, PadRound::count);
        sentence(46, "0 WORDS, 1 BOXES that count, 2 PLAYERS, 3 SLOPPY ones (TURNED, too), 4 LEAVES,");
        int[] want = {2, 2, 8, 2, 3, 1, 5, 3};
        for (int what = 0; what < 8; what++) {
            due("count(" + what + ")", evening().count(what), want[what]);
        }
    }

    private static void findings() {
        sentence(47, "The latest FINDING (0 before any).");
        due("finding()", new PadRound().finding(), 0);
        PadRound y = new PadRound();
        y.row(6, 0);
        y.box(0, 9);
        due("BAD is none", y.finding(), 0);
        sentence(48, "How often a FINDING (1 .. 5) was answered. BAD.");
        bad("findings", new int[] {0, -1, 6, LOW, HIGH}, PadRound::findings);
        for (int n = 1; n <= 100; n++) {
            finds("row(0, -1)", y, SIZE, y.row(0, -1));
            due("findings(5)", y.findings(SIZE), n);
        }
        int[] each = {NOTHING, BEYOND, UNLIKE, NOUGHT, SIZE};
        for (int f : each) {
            PadRound z = evening();
            due("findings(" + f + ") before", z.findings(f), 0);
            finds("FINDING " + f, z, f, f == NOTHING ? z.at(5, 0) : f == BEYOND ? z.at(3, 0)
                    : f == UNLIKE ? z.mark(0, 1) : f == NOUGHT ? z.mean(3) : z.most(3));
            for (int other : each) {
                due("findings(" + other + ")", z.findings(other), other == f ? 1 : 0);
            }
        }
    }

    private static long digestOf(List<Integer> all) {
        BigInteger h = BigInteger.valueOf(17);
        for (int v : all) {
            h = h.multiply(BigInteger.valueOf(31)).add(BigInteger.valueOf(v));
        }
        return h.longValue();
    }

    private static void add(List<Integer> all, int... v) {
        for (int each : v) {
            all.add(each);
        }
    }

    private static void digest() {
        sentence(49, "h = 17; then h = 31 h + v for each v");
        List<Integer> all = new ArrayList<>();
        add(all, 0, 0, 0, 0, 0, 0, 0, 0, -1, -1, -1, -1, -1, -1, -1, -1, -1, -1, -1, -1);
        due("new", new PadRound().digest(), digestOf(all));
        all.clear();
        PadRound y = new PadRound();
        int[] row = {LOW, HIGH, -1, 0, 7};
        fill(y, 5, row);
        y.row(0, 0);
        y.text(0, 0);
        write(y, 3, "" + (char) 128 + (char) 255 + "a");
        add(all, 0, 0, 0, 0, 0, 0, 2, 2, -1, -1);
        add(all, 0, -1, -1, -1, -1, 5);
        add(all, row);
        add(all, 0, -1, -1, 3, -128, -1, 97);
        due("ROWS and TEXTS, the lowest and the highest", y.digest(), digestOf(all));
        sentence(49, "of each BOX (-1 once: missing) how many WORDS");
        all.clear();
        y = new PadRound();
        write(y, 0, TWO);
        y.box(1, 0);
        y.text(0, 0);
        add(all, 0, 0, 0, 0, 0, 0, 0, 1, -1, 2, 6, 2, 0, 0, 0, 0, 0, 0, 0, 0, 0, 6, 2, 0, 0, 0, 0, 0, 0, 0);
        add(all, -1, -1, -1, -1, -1, -1, 0, -1, -1, -1);
        due("BOX 1 alone, which does not count", y.digest(), digestOf(all));
        sentence(49, "what it tells, not the 1 that it answers; asked() stays");
        y = evening();
        y.digest();
        due("asked()", y.asked(), 77);
        due("twice alike", y.digest(), y.digest());
    }
}
