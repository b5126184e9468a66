import java.io.IOException;
import java.math.BigInteger;
import java.nio.file.Files;
import java.nio.file.Path;
import java.util.Arrays;
import java.util.List;
import java.util.regex.Matcher;
import java.util.regex.Pattern;
import java.util.stream.Stream;

/**
 * The document once more from its first line: the sentences that name no boundary case, each
 * quoted, with answers worked out by hand in one world of two LANDS. At the end every sentence
 * of the document must be quoted by some test, here or in the EdgesOf..Test files.
 */
public final class SentencesTest extends Checks {
    /** WORDS at home: 0 by PARTS 0 1 2 9, 1 by 3 1 4, 2 by 2 8 4. */
    private static final String HOME = "w5320000001 w0406200000 w0070100040";
    /** WORDS abroad: 0 by PARTS 1 9 5, 1 by 0 3, 2 by 7 2. */
    private static final String ABROAD = "w0500020003w6001000000 w0020000800";
    private static final int PLAIN = 0, SLOPPY = 1, FIXED = 2, PARTED = 3, TURNED = 4, READER = 5;

    public static void main(String[] args) throws IOException {
        refusals();
        findings();
        rows();
        texts();
        boxes();
        players();
        marks();
        drawings();
        guesses();
        steps();
        tables();
        offs();
        pads();
        whatToDraw();
        lands();
        leaves();
        kinds();
        machines();
        signs();
        images();
        whatIsTold();
        digest();
        everySentenceIsQuoted();
        end("every sentence of the document is quoted and kept");
    }

    /** PLAYERS 0 .. 5 of KINDS 0 .. 5 at home, 6 a plain one and 7 a READER abroad; 2 PARTS, FAVOURITE 0. */
    private static PadRound company() {
        PadRound x = world(HOME, ABROAD);
        for (int kind = 0; kind < 6; kind++) {
            x.player(kind, 0, 2, 0);
        }
        x.player(PLAIN, 1, 2, 0);
        x.player(READER, 1, 2, 0);
        return x;
    }

    /** Plain ones: 0 and 1 at home, 2 and 3 abroad. STEPS in a LAND abroad are never wrong. */
    private static PadRound twoLands() {
        PadRound x = world(HOME, ABROAD);
        for (int p = 0; p < 4; p++) {
            x.player(PLAIN, p / 2, 2, 0);
        }
        return x;
    }

    /** Four plain ones at home; ROW 0 is their TABLE. A STEP: 16 8 0, 5 19 0, 3 0 21. */
    private static PadRound homeTable() {
        PadRound x = world(HOME);
        for (int p = 0; p < 4; p++) {
            x.player(PLAIN, 0, 2, 0);
        }
        fill(x, 0, 0, 1, 2, 3);
        return x;
    }

    private static void refusals() {
        sentence(0, "BAD -1 (a number that is none, or not as told), FULL -2, STATE -4 (not now), SPENT -6 (more "
                + "than told), FINDING -3 (finding() tells which)");
        PadRound y = company();
        due("BAD", y.about(8, 0), -1);
        due("FULL", y.player(0, 0, 1, 0), -2);
        write(y, 2, "w");
        due("STATE", y.box(0, 2), -4);
        fill(y, 0, upTo(8));
        fill(y, 1, 0, 1, 2, 0, 1, 2, 0, 1);
        due("SPENT", y.seats(0, 1, 2), -6);
        due("no FINDING yet", y.finding(), 0);
        due("FINDING", y.mark(0, 1), -3);
        due("finding()", y.finding(), 3);
        sentence(0, "NONE -9.");
        due("NONE", y.stranger(0, 1, 2, 6), -9);
        due("NONE is no FINDING", y.findings(1) + y.findings(2) + y.findings(4) + y.findings(5), 0);
    }

    private static void findings() {
        sentence(0, "FINDINGS: 1 NOTHING (a ROW, a TEXT, a BOX that is missing), 2 BEYOND (a place that there is not), "
                + "3 UNLIKE (a PLAYER of another KIND; a number that is none), 4 NOUGHT (shared among none; what "
                + "can't be), 5 SIZE (fewer than none; not as many as due).");
        PadRound y = new PadRound();
        finds("a ROW that is missing", y, 1, y.tear(0));
        finds("a TEXT that is missing", y, 1, y.fault(0));
        finds("a BOX that is missing", y, 1, y.usual(0, 0, 0));
        PadRound z = homeTable();
        finds("a place that there is not", z, 2, z.at(0, 4));
        finds("a PLAYER of another KIND", z, 3, z.mark(0, FIXED));
        fill(z, 1, 10);
        finds("a number that is none", z, 3, z.guess(0, 1, NONE, 2));
        z.row(1, 0);
        finds("shared among none", z, 4, z.mean(1));
        finds("what can't be", z, 4, z.off(0, 0, 2, 0));
        finds("fewer than none", z, 5, z.row(1, -1));
        fill(z, 1, 0, 1, 2);
        finds("not as many as due", z, 5, z.kept(0, 1));
        int[] how = {1, 2, 2, 2};
        for (int f = 2; f <= 5; f++) {
            due("findings(" + f + ")", z.findings(f), how[f - 2]);
        }
        sentence(0, "Fractions are told by upper() (may be below 0) and lower()");
        z.comes(0, 0, 1);
        tells("35 by 72", z, 35, 72);
    }

    private static void rows() {
        sentence(3, "Place i of a ROW is v:");
        PadRound y = new PadRound();
        y.row(3, 3);
        asks("lay(3, 1, 6)", y, 0, y.lay(3, 1, 6));
        holds("lay(3, 1, 6)", y, 3, 0, 6, 0);
        sentence(6, "n places of a ROW, from one on, come to those of another one");
        fill(y, 1, 10, 11, 12, 13, 14);
        fill(y, 2, 20, 21, 22, 23);
        due("copy(1, 2, 2, 1, 2)", y.copy(1, 2, 2, 1, 2), 1);
        holds("to", y, 2, 20, 12, 13, 23);
        holds("from", y, 1, 10, 11, 12, 13, 14);
    }

    private static void texts() {
        sentence(9, "Byte i of a TEXT is v,");
        PadRound y = new PadRound();
        y.text(1, 3);
        due("put(1, 1, 77)", y.put(1, 1, 77), 1032);
        due("put(1, 1, 5)", y.put(1, 1, 5), 1077);
        due("put(1, 0, 6)", y.put(1, 0, 6), 1032);
        due("put(1, 2, 6)", y.put(1, 2, 6), 1032);
        sentence(0, "A FAULT is the first place at which it can't go on so");
        sentence(10, "A FAULT of a TEXT;");
        write(y, 0, " w5320000001-w04");
        due("a sign between", y.fault(0), 12);
        write(y, 0, "w5320000001 w04 6200000x");
        due("a blank within", y.fault(0), 15);
    }

    private static void boxes() {
        sentence(0, "A BOX (of LAND 0, of LAND 1; missing at first) is a TEXT:");
        PadRound y = new PadRound();
        finds("missing at first, LAND 0", y, NOTHING, y.usual(0, 0, 0));
        write(y, 0, HOME);
        write(y, 3, ABROAD);
        sentence(11, "The BOX of a LAND by a TEXT");
        due("box(0, 0)", y.box(0, 0), 3);
        finds("missing at first, LAND 1", y, NOTHING, y.usual(1, 0, 0));
        due("box(1, 3)", y.box(1, 3), 3);
        y.text(0, 0);
        sentence(0, ": a WORD, how USUAL each PART 0 .. 9 is in it");
        sentence(12, "How USUAL a PART is in a WORD in a LAND.");
        int[][] home = {{5, 3, 2, 0, 0, 0, 0, 0, 0, 1}, {0, 4, 0, 6, 2, 0, 0, 0, 0, 0}, {0, 0, 7, 0, 1, 0, 0, 0, 4, 0}};
        int[][] abroad = {{0, 5, 0, 0, 0, 2, 0, 0, 0, 3}, {6, 0, 0, 1, 0, 0, 0, 0, 0, 0}, {0, 0, 2, 0, 0, 0, 0, 8, 0, 0}};
        for (int word = 0; word < 3; word++) {
            for (int part = 0; part < 10; part++) {
                String of = word + ", " + part + ")";
                due("usual(0, " + of, y.usual(0, word, part), home[word][part]);
                due("usual(1, " + of, y.usual(1, word, part), abroad[word][part]);
            }
        }
    }

    private static void players() {
        sentence(0, "have a LAND, PARTS that they draw (1 .. 6), a FAVOURITE (a WORD).");
        sentence(13, "A PLAYER of a KIND: his number.");
        PadRound y = world(HOME, ABROAD);
        due("the first", y.player(READER, 1, 6, 2), 0);
        due("the second", y.player(PARTED, 0, 1, 1), 1);
        sentence(14, "Of a PLAYER: 0 his KIND, 1 LAND, 2 PARTS, 3 FAVOURITE, told by asked(): 1.");
        int[][] told = {{5, 1, 6, 2}, {3, 0, 1, 1}};
        for (int p = 0; p < 2; p++) {
            for (int what = 0; what < 4; what++) {
                asks("about(" + p + ", " + what + ")", y, told[p][what], y.about(p, what));
            }
        }
        sentence(0, "KINDS: 0 PLAYER, 1 SLOPPY (a PLAYER), 2 FIXED (a PLAYER), 3 PARTED (a PLAYER), 4 TURNED (a SLOPPY), "
                + "5 READER (a PLAYER).");
        y = company();
        for (int p = 0; p < 6; p++) {
            for (int kind = 1; kind < 6; kind++) {
                boolean is = p == kind || p == TURNED && kind == SLOPPY;
                int got = y.mark(p, kind);
                due("mark(" + p + ", " + kind + ") is told (1: so, 0: " + got + ")", got >= 0 ? 1 : 0, is ? 1 : 0);
            }
        }
    }

    private static void marks() {
        PadRound y = company();
        sentence(15, "What a PLAYER that IS of a KIND tells:");
        due("SLOPPY: 1 of 2 PARTS", y.mark(SLOPPY, SLOPPY), 1);
        due("FIXED: PART 0 is in WORD 0 alone", y.mark(FIXED, FIXED), 24);
        due("TURNED: PART 9 is in WORD 0 alone", y.mark(TURNED, TURNED), 0);
        due("TURNED as a SLOPPY one", y.mark(TURNED, SLOPPY), 1);
        sentence(15, "a PARTED one his PARTS,");
        due("PARTED", y.mark(PARTED, PARTED), 2);
        sentence(15, "a READER of how many PLAYERS (himself, too) he has a greater SHARE of WORD 0, drawn by them, "
                + "if he knows by whom, than if not.");
        // By [0, 1] of one at home 16 of 24 either way; by [0] of a SLOPPY one 24 either way;
        // by [1, 9] of one abroad 18, else 12.
        due("a READER at home: the two from abroad", y.mark(READER, READER), 2);
        // By [0, 1] of one at home a SUM of 13 of 23, else 5 of 11; by [0] of a SLOPPY one 4 of
        // 10, else 0; by [1, 9] of one abroad all 24 either way.
        due("a READER abroad: the six at home", y.mark(7, READER), 6);
    }

    private static void drawings() {
        sentence(0, "A PLAYER draws a WORD by the PARTS that are most USUAL in it in his LAND");
        sentence(16, "What a PLAYER draws of a WORD");
        PadRound y = world(HOME, ABROAD);
        y.player(PLAIN, 0, 3, 0);
        y.player(PLAIN, 1, 3, 0);
        y.player(TURNED, 0, 3, 0);
        y.player(READER, 0, 6, 0);
        int[][][] due = {{{0, 1, 2}, {3, 1, 4}, {2, 8, 4}}, {{1, 9, 5}, {0, 3}, {7, 2}}, {{0, 1}, {3, 1}, {2, 8}},
            {{0, 1, 2, 9}, {3, 1, 4}, {2, 8, 4}}};
        for (int p = 0; p < 4; p++) {
            for (int word = 0; word < 3; word++) {
                String call = "draws(" + p + ", " + word + ", 4)";
                due(call, y.draws(p, word, 4), due[p][word].length);
                holds(call, y, 4, due[p][word]);
            }
        }
    }

    private static void guessed(PadRound x, String call, int p, int by, int word, int... shares) {
        due(call, x.guess(p, 0, by, 1), word);
        holds(call, x, 1, shares);
    }

    private static void guesses() {
        sentence(0, "DRAWN is a row of unlike PARTS (1 to 6, in their order).");
        PadRound y = company();
        fill(y, 0, 2, 1);
        guessed(y, "PARTED, PART 2 first", PARTED, NONE, 2, 5, 0, 19);
        fill(y, 0, 1, 2);
        guessed(y, "PARTED, PART 1 first", PARTED, NONE, 1, 10, 14, 0);
        sentence(17, "SHARES by which a PLAYER guesses a DRAWN row (a ROW)");
        sentence(0, "He guesses a DRAWN row: of each WORD the SUM of how USUAL its PARTS are in it in his LAND;");
        sentence(0, "SHARES of WORDS are 24 together: 24 times the SUM by all SUMS together, cut;");
        guessed(y, "at home: 5 4 7 of 16", PLAIN, NONE, 2, 7, 6, 11);
        guessed(y, "abroad: 5 0 2 of 7", 6, NONE, 0, 18, 0, 6);
        guessed(y, "SLOPPY, as a plain one", SLOPPY, NONE, 2, 7, 6, 11);
        sentence(0, "FIXED: 9 more for his FAVOURITE;");
        guessed(y, "FIXED: 14 4 7 of 25", FIXED, NONE, 0, 15, 3, 6);
        fill(y, 0, 0, 5);
        guessed(y, "TURNED, PARTS 9 and 4: 1 2 1 of 4", TURNED, NONE, 1, 6, 12, 6);
        sentence(0, "READER: and 4 more for each PART of the row that he who drew would draw of that WORD");
        fill(y, 0, 1);
        guessed(y, "by nobody known: 3 4 0 of 7", READER, NONE, 1, 10, 14, 0);
        guessed(y, "by a plain one: 7 8 0 of 15", READER, PLAIN, 1, 11, 13, 0);
        guessed(y, "by a SLOPPY one, who would draw one: 3 4 0 of 7", READER, SLOPPY, 1, 10, 14, 0);
        guessed(y, "by one from abroad: 7 4 0 of 11", READER, 6, 0, 16, 8, 0);
        guessed(y, "a plain one does not look by whom", PLAIN, 6, 1, 10, 14, 0);
    }

    private static void steps() {
        sentence(0, "A STEP is one PLAYER who draws a WORD, and another one who guesses that.");
        PadRound y = twoLands();
        int[][] homeToAbroad = {{10, 14, 0}, {20, 4, 0}, {0, 0, 24}};
        int[][] abroadToHome = {{12, 12, 0}, {10, 14, 0}, {5, 0, 19}};
        for (int word = 0; word < 3; word++) {
            due("home to abroad, " + word, y.step(0, 2, word, 5), homeToAbroad[word][word]);
            holds("home to abroad, " + word, y, 5, homeToAbroad[word]);
            due("abroad to home, " + word, y.step(2, 0, word, 5), abroadToHome[word][word]);
            holds("abroad to home, " + word, y, 5, abroadToHome[word]);
        }
        y = company();
        due("a READER knows that one from abroad drew: 12 4 0 of 16", y.step(6, READER, 0, 5), 18);
        holds("a READER", y, 5, 18, 6, 0);
    }

    private static void tables() {
        sentence(0, "A TABLE is a ROW of unlike PLAYERS, 2 to 8, an even number:");
        sentence(0, "A WORD COMES to others by SHARES of all STEPS (of 24 to the power of STEPS). It comes HOME, if that "
                + "is itself.");
        sentence(19, "Odds that a WORD COMES to another one (perhaps itself) by a TABLE (a ROW), told by upper(), "
                + "lower(): 1.");
        PadRound y = homeTable();
        long[][] of = {{296, 280, 0}, {175, 401, 0}, {111, 24, 441}};
        for (int word = 0; word < 3; word++) {
            for (int other = 0; other < 3; other++) {
                String call = "comes(0, " + word + ", " + other + ")";
                due(call, y.comes(0, word, other), 1);
                due(call + " of 576", 576 * y.upper(), of[word][other] * y.lower());
            }
        }
        sentence(20, "The WORD to which most go: by a TABLE the sum of odds over all WORDS");
        due("most(0): 582, 705, 441 of 576", y.most(0), 1);
        tells("most(0)", y, 235, 192);
        sentence(21, "WORDS (bits) that come HOME by a TABLE by odds of a by b");
        both("keeps(0, 1, 2)", y, 7, 0, y.keeps(0, 1, 2));
        both("keeps(0, 2, 3)", y, 6, 0, y.keeps(0, 2, 3));
        both("keeps(0, 49, 64)", y, 4, 0, y.keeps(0, 49, 64));
        both("keeps(0, 50, 65)", y, 0, 0, y.keeps(0, 50, 65));
        sentence(22, "Odds that it was a WORD, if it is another one (perhaps itself) at last (all WORDS as likely ahead), "
                + "told by upper(), lower(): 1.");
        due("was(0, 0, 1)", y.was(0, 0, 1), 1);
        tells("175 of 582", y, 175, 582);
        due("was(0, 1, 2)", y.was(0, 1, 2), 1);
        tells("24 of 705", y, 8, 235);
        due("was(0, 2, 2)", y.was(0, 2, 2), 1);
        tells("441 of 441", y, 1, 1);
    }

    private static void offs() {
        sentence(23, "Odds that a WORD that comes to an unlike one at last went OFF at STEP k, told by upper(), lower(): 1.");
        PadRound y = homeTable();
        due("off(0, 0, 1, 0)", y.off(0, 0, 1, 0), 1);
        tells("8 * 19 of 280", y, 19, 35);
        due("off(0, 0, 1, 1)", y.off(0, 0, 1, 1), 1);
        tells("16 * 8 of 280", y, 16, 35);
        due("off(0, 2, 0, 0)", y.off(0, 2, 0, 0), 1);
        tells("3 * 16 of 111", y, 16, 37);
        due("off(0, 2, 0, 1)", y.off(0, 2, 0, 1), 1);
        tells("21 * 3 of 111", y, 21, 37);
    }

    private static void pads() {
        sentence(0, "PADS go round a TABLE of n:");
        sentence(0, "KEPT is the sum of odds that PADS come HOME.");
        sentence(24, "KEPT of PADS (a ROW of WORDS, one for each place) by a TABLE, told by upper(), lower():");
        PadRound y = twoLands();
        fill(y, 0, 0, 2);
        fill(y, 1, 2, 1);
        due("WORD 2 from home, WORD 1 from abroad", y.kept(0, 1), 0);
        tells("24 and 14 of 24", y, 19, 12);
        fill(y, 1, 1, 0);
        due("WORD 1 from home, WORD 0 from abroad", y.kept(0, 1), 1);
        tells("4 and 12 of 24", y, 2, 3);
        sentence(25, "The order of PLAYERS of a TABLE of 2, 4 or 6, the first one staying,");
        sentence(25, "KEPT by upper(), lower(): how many orders are as good.");
        fill(y, 0, 0, 2, 1, 3);
        fill(y, 1, 2, 2, 2, 2);
        // Those of a LAND beside each other: 504 456 504 456 of 576; else 576 361 576 361.
        due("WORD 2 on all PADS", y.seats(0, 1, 4), 4);
        tells("1920 of 576", y, 10, 3);
        holds("seats", y, 4, 0, 1, 2, 3);
        due("as the seats are", y.kept(0, 1), 0);
        tells("1874 of 576", y, 937, 288);
        fill(y, 0, 3, 0, 2, 1);
        due("one from abroad stays first", y.seats(0, 1, 4), 4);
        holds("one from abroad stays first", y, 4, 3, 0, 1, 2);
    }

    private static void whatToDraw() {
        sentence(26, "by which a PLAYER has the greatest SHARE of a WORD,");
        sentence(26, "that SHARE by asked(). BAD.");
        PadRound y = twoLands();
        both("PART 3 is in WORD 1 alone", y, 8, 24, y.parts(0, 1, 1));
        both("PARTS 5 and 8: 5 is in no WORD at home", y, 288, 24, y.parts(0, 2, 2));
        both("abroad PARTS 0 and 3 are in WORD 1 alone", y, 9, 24, y.parts(2, 1, 2));
        due("no such PLAYER", y.parts(4, 1, 1), BAD);
        sentence(27, "by asked(). NONE: by none. BAD.");
        both("PART 0 alone", y, 1, 1, y.few(0, 0, 24));
        both("PART 1 has 14 for WORD 1", y, 1, 2, y.few(0, 1, 14));
        both("PART 3 has 15 and more", y, 1, 8, y.few(0, 1, 15));
        due("no such PLAYER", y.few(4, 1, 1), BAD);
        sentence(28, "The order of a DRAWN row (a ROW) by which a PLAYER who watches (not known by whom) knows the WORD "
                + "soonest: by its first k PARTS, by one more, .. by all of them");
        fill(y, 0, 1, 0);
        due("PART 0 first", y.soon(0, 0, 0, 1), 1);
        holds("PART 0 first", y, 1, 0, 1);
        // Abroad PART 1 alone is WORD 0, PART 0 alone and both together are WORD 1.
        due("WORD 0 is lost by both", y.soon(2, 0, 0, 1), NONE);
        due("WORD 1 by PART 0", y.soon(2, 1, 0, 1), 1);
        // At home PARTS 0 and 1 are WORD 0, by 8 against 4; with PART 3 they are WORD 1, by 10 against 8.
        fill(y, 0, 0, 1, 3);
        due("WORD 1 by PART 1", y.soon(0, 1, 0, 1), 1);
        holds("WORD 1 by PART 1, then 3, as 0 would lose it", y, 1, 1, 3, 0);
    }

    private static void lands() {
        sentence(29, "in just one of them by asked().");
        PadRound y = twoLands();
        both("PARTS 0 1 here, 1 9 there", y, 2, 513, y.common(0, 3));
        both("PARTS 0 1 2 9 here, 1 5 9 there", y, 514, 37, y.common(0, 1));
        sentence(30, "Odds that a DRAWN row is of LAND 0: how USUAL its PARTS are in all WORDS there, by that in both, told by "
                + "upper(), lower(): 1.");
        fill(y, 0, 1, 2);
        due("land(0)", y.land(0), 1);
        tells("16 here, 7 there", y, 16, 23);
    }

    private static void leaves() {
        sentence(0, "tell a drawing: a PLAYER, a WORD, DRAWN PARTS (a ROW), or a guess");
        sentence(33, "Of a LEAF: 0 whether it is a guess (1, 0), 1 the PLAYER, 2 the WORD, 3 PARTS (bits), 4 by whom (NONE; "
                + "a drawing: NONE), told by asked(): 1.");
        PadRound y = company();
        fill(y, 0, 4, 3);
        due("leaf", y.leaf(6, 1, 0), 0);
        due("guessed", y.guessed(7, 0, 6, 2), 1);
        due("guessed", y.guessed(0, 0, NONE, 1), 2);
        int[][] told = {{0, 6, 1, 24, NONE}, {1, 7, 2, 24, 6}, {1, 0, 1, 24, NONE}};
        for (int e = 0; e < 3; e++) {
            for (int what = 0; what < 5; what++) {
                asks("told(" + e + ", " + what + ")", y, told[e][what], y.told(e, what));
            }
        }
    }

    private static void kinds() {
        sentence(0, "A KIND is OFF a PLAYER by LEAVES of drawings of his: PARTS by which what one of that KIND (LAND, PARTS, "
                + "FAVOURITE as his) would draw is unlike (as sets), all together.");
        PadRound y = company();
        fill(y, 0, 0);
        y.leaf(0, 0, 0);
        fill(y, 0, 3, 4);
        y.leaf(0, 1, 0);
        both("a plain one is OFF by 3, a SLOPPY one by 1", y, SLOPPY, 1, y.hand(0));
        y.leaf(6, 1, 0);
        both("abroad WORD 1 is 0 and 3: OFF by 2, a SLOPPY one by 3", y, PLAIN, 2, y.hand(6));
        sentence(0, "LIKELIHOOD of a KIND by LEAVES of guesses of his: of all the SHARES by which one of that KIND would "
                + "have guessed so.");
        sentence(36, "The KIND of the greatest LIKELIHOOD by guesses of a PLAYER");
        fill(y, 0, 1, 2);
        y.guessed(0, 0, NONE, 2);
        due("11 11 6 0 24 11", y.guesser(0), TURNED);
        tells("24 of 63", y, 8, 21);
        fill(y, 0, 1);
        y.guessed(0, 0, 0, 0);
        due("and 10 10 18 10 0 11: 110 110 108 0 0 121", y.guesser(0), READER);
        tells("121 of 449", y, 121, 449);
    }

    private static void machines() {
        sentence(0, "A MACHINE takes DRAWN PARTS for the WORD of that LEAF of a drawing");
        sentence(37, "What a MACHINE takes DRAWN PARTS for; how unlike by asked().");
        PadRound y = company();
        fill(y, 0, 0);
        y.leaf(0, 0, 0);
        fill(y, 0, 3, 4);
        y.leaf(6, 1, 0);
        fill(y, 0, 4);
        y.guessed(1, 0, NONE, 2);
        both("by its PARTS 3 and 4", y, 1, 1, y.machine(0));
        fill(y, 0, 1, 0, 9);
        both("by its PART 0", y, 0, 2, y.machine(0));
        sentence(38, "Of how many LEAVES of drawings a MACHINE, HELD against each by all others, has the WORD; of how many by "
                + "asked().");
        both("two unlike WORDS", y, 0, 2, y.held());
        y.leaf(2, 0, 0);
        both("WORD 0 twice", y, 2, 3, y.held());
    }

    private static void signs() {
        sentence(0, "A SIGN of two PLAYERS for a WORD: at first what the one draws of it;");
        sentence(39, "comes to a ROW (anew): how many PARTS. BAD.");
        PadRound y = world(HOME, ABROAD);
        y.player(PLAIN, 0, 3, 0);
        y.player(PLAIN, 0, 1, 0);
        y.player(PLAIN, 1, 1, 0);
        int[][] weeks = {{3, 1, 4}, {3, 1}, {3}, {3}};
        for (int n = 0; n < 4; n++) {
            due("sign, WEEK " + n, y.sign(0, 1, 1, n, 5), weeks[n].length);
            holds("sign, WEEK " + n, y, 5, weeks[n]);
        }
        due("one from abroad has 10 of 24 by PARTS 0 and 1", y.sign(0, 2, 0, 9, 5), 3);
        holds("it stays", y, 5, 0, 1, 2);
        due("no such PLAYER", y.sign(0, 3, 0, 0, 5), BAD);
        sentence(40, "a third PLAYER (unlike both) who sees the SIGN,");
        sentence(40, "then by asked(). NONE: none. BAD.");
        both("PART 0 is WORD 1 abroad", y, 0, 1, y.stranger(0, 1, 0, 2));
        due("PART 2 is WORD 2 in both", y.stranger(0, 1, 2, 2), NONE);
        due("no such PLAYER", y.stranger(0, 1, 2, 3), BAD);
    }

    private static void images() {
        sentence(41, "An image of all PLAYERS comes to a ROW (anew): of each 1000 times KIND, 100 times LAND, 10 times PARTS and "
                + "FAVOURITE together: how many. BAD.");
        PadRound y = company();
        due("image(2)", y.image(2), 8);
        holds("image(2)", y, 2, 20, 1020, 2020, 3020, 4020, 5020, 120, 5120);
        due("image(6)", y.image(6), BAD);
        fill(y, 2, 3161, 4);
        finds("a number that is none", y, UNLIKE, y.on(2));
        fill(y, 2, 3161, 42);
        due("on(2)", y.on(2), 2);
        int[][] told = {{3, 1, 6, 1}, {0, 0, 4, 2}};
        for (int p = 0; p < 2; p++) {
            for (int what = 0; what < 4; what++) {
                asks("about(" + p + ", " + what + ")", y, told[p][what], y.about(p, what));
            }
        }
    }

    private static void whatIsTold() {
        sentence(43, "What the latest lay(), at(), mean(), about(), keeps(), parts(), few(), common(), told(), hand(), "
                + "machine(), held(), stranger() that was not refused (nor NONE) told");
        PadRound y = company();
        fill(y, 0, 0, 1, 2, 3);
        fill(y, 1, 7);
        y.lay(1, 0, 9);
        due("lay", y.asked(), 7);
        y.at(1, 0);
        due("at", y.asked(), 9);
        y.mean(0);
        due("mean", y.asked(), 1);
        y.about(5, 0);
        due("about", y.asked(), 5);
        y.at(1, 0);
        y.keeps(0, 1, 2);
        due("keeps: HOME are 384, 456, 399 of 576", y.asked(), 0);
        y.parts(0, 1, 1);
        due("parts", y.asked(), 24);
        y.few(0, 2, 24);
        due("few", y.asked(), 256);
        y.common(0, 3);
        due("common", y.asked(), 513);
        y.leaf(6, 2, 1);
        y.told(0, 3);
        due("told", y.asked(), 512);
        y.hand(6);
        due("hand: a SLOPPY one draws 7, not 9", y.asked(), 2);
        y.leaf(6, 2, 1);
        y.machine(1);
        due("machine", y.asked(), 0);
        y.held();
        due("held", y.asked(), 2);
        y.stranger(0, 2, 0, 6);
        due("stranger", y.asked(), 1);
        sentence(45, "Its lower number;");
        y.land(1);
        tells("PART 9: 1 here, 3 there", y, 1, 4);
        sentence(46, "0 WORDS, 1 BOXES that count, 2 PLAYERS, 3 SLOPPY ones (TURNED, too), 4 LEAVES, 5 guesses among them, "
                + "6 ROWS, 7 TEXTS that are there.");
        y.guessed(6, 1, NONE, 0);
        y.text(3, 1);
        int[] counts = {3, 2, 8, 2, 3, 1, 2, 3};
        for (int what = 0; what < 8; what++) {
            due("count(" + what + ")", y.count(what), counts[what]);
        }
    }

    private static void digest() {
        sentence(49, "(of a call that tells by asked(): what it tells, not the 1 that it answers; asked() stays): count() 0 to "
                + "7; of each BOX (-1 once: missing) how many WORDS, of each how USUAL PARTS 0 to 9 are; of each PLAYER "
                + "about() 0 to 3; of each LEAF told() 0 to 4; of each ROW its size (-1: missing) and places, of each "
                + "TEXT likewise.");
        PadRound y = new PadRound();
        write(y, 2, "w0100000009");
        y.box(0, 2);
        y.player(TURNED, 0, 3, 0);
        fill(y, 4, 9, 1);
        y.guessed(0, 4, 0, 0);
        y.leaf(0, 0, 4);
        int[] all = {1, 1, 1, 1, 2, 1, 1, 1, 1, 0, 1, 0, 0, 0, 0, 0, 0, 0, 9, -1, 4, 0, 3, 0, 1, 0, 0, 514, 0,
            0, 0, 0, 514, NONE, -1, -1, -1, -1, 2, 9, 1, -1, -1, -1, 11, 119, 48, 49, 48, 48, 48, 48, 48, 48, 48, 57, -1};
        BigInteger h = BigInteger.valueOf(17);
        for (int v : all) {
            h = h.multiply(BigInteger.valueOf(31)).add(BigInteger.valueOf(v));
        }
        int asked = y.asked();
        due("digest()", y.digest(), h.longValue());
        due("asked() stays", y.asked(), asked);
    }

    // ---- that no sentence is left out

    private static final Pattern QUOTE = Pattern.compile("sentence\\((\\d+),\\s*((?:\"[^\"]*\"\\s*\\+?\\s*)+)\\)");

    /** Marks what the tests quote; of what is left only signs, headings and the face may stand. */
    private static void everySentenceIsQuoted() throws IOException {
        String[] sections = new String[50];
        boolean[][] quoted = new boolean[50][];
        for (int of = 0; of < 50; of++) {
            sections[of] = section(of);
            quoted[of] = new boolean[sections[of].length()];
        }
        List<Path> tests;
        try (Stream<Path> files = Files.list(Path.of("src/test/java"))) {
            tests = files.filter(f -> f.toString().endsWith("Test.java")).sorted().toList();
        }
        for (Path test : tests) {
            Matcher m = QUOTE.matcher(Files.readString(test));
            while (m.find()) {
                int of = Integer.parseInt(m.group(1));
                String words = m.group(2).replaceAll("\"\\s*\\+\\s*\"", "").strip();
                words = words.substring(1, words.length() - 1);
                int at = sections[of].indexOf(words);
                if (at >= 0) {
                    Arrays.fill(quoted[of], at, at + words.length(), true);
                }
            }
        }
        for (int of = 0; of < 50; of++) {
            String rest = unquoted(sections[of], quoted[of]);
            if (!rest.isBlank()) {
                wrong++;
                System.out.println("promise " + of + ": no test quotes '" + rest.strip() + "'");
            }
        }
    }

    private static String unquoted(String text, boolean[] quoted) {
        StringBuilder s = new StringBuilder();
        int from = Math.max(0, text.indexOf("## Terms"));
        int to = text.contains("Ahead of the calls") ? text.indexOf("Ahead of the calls") : text.length();
        for (int i = from; i < to; i++) {
            s.append(quoted[i] ? '\n' : text.charAt(i));
        }
        return s.toString().replaceAll("## (Terms|Promise \\d+: [\\w ]+?(?= `)) ", "")
                .replaceAll("`(int|long)? ?\\w+\\([\\w ,]*\\)`:", "").replaceAll("```(text)?|======== \\d", "")
                .replaceAll("\\b(and|or)\\b", "").replaceAll("[\\s,.;:()]+", " ");
    }
}
