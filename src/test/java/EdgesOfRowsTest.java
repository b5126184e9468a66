import java.math.BigInteger;

/**
 * The boundary cases that the document names in its terms and in promises 1 to 17: each
 * sentence is quoted, and the tests below it fail if it is broken.
 */
public final class EdgesOfRowsTest extends Checks {
    public static void main(String[] args) {
        order();
        nothingChanges();
        newObject();
        row();
        lay();
        at();
        tear();
        copy();
        mean();
        text();
        put();
        boxesAsTold();
        fault();
        faultsTold();
        box();
        boxesThatCount();
        usual();
        player();
        about();
        mark();
        draws();
        guess();
        shares();
        end("rows, texts, boxes, players: each edge is kept");
    }

    private static PadRound eightAtTheTable() {
        PadRound x = evening(5, upTo(8));
        fill(x, 3, new int[8]);
        return x;
    }

    private static void order() {
        sentence(0, "Refused is, the first of these that fits, in this order: BAD -1");
        refuses("BAD ahead of FULL", BAD, evening(), x -> x.player(0, 0, 0, 0));
        refuses("BAD ahead of STATE", BAD, evening(), x -> x.box(2, 2));
        refuses("BAD ahead of SPENT", BAD, eightAtTheTable(), x -> x.seats(5, 3, -1));
        refuses("BAD ahead of NOTHING", BAD, evening(), x -> x.guess(8, 5, NONE, 0));
        refuses("BAD ahead of BEYOND", BAD, evening(), x -> x.at(6, 40));
        refuses("BAD ahead of UNLIKE", BAD, evening(), x -> x.mark(0, 6));
        refuses("BAD ahead of SIZE", BAD, evening(), x -> x.comes(3, 2, 0));
        refuses("BAD ahead of NOUGHT", BAD, evening(), x -> x.was(0, 2, 0));
        sentence(0, "unless a call says so otherwise.");
        refuses("NOTHING ahead of STATE", NOTHING, evening(), x -> x.box(0, 3));
        refuses("UNLIKE ahead of SPENT", UNLIKE, evening(5, new int[8]), x -> x.seats(5, 5, 4));
    }

    private static void nothingChanges() {
        sentence(0, "What is refused changes nothing but finding(), findings().");
        refuses("BAD", BAD, evening(), x -> x.row(0, 41));
        refuses("FULL", FULL, evening(), x -> x.player(0, 0, 1, 0));
        refuses("STATE", STATE, evening(), x -> x.box(0, 2));
        refuses("SPENT", SPENT, eightAtTheTable(), x -> x.seats(5, 3, 4));
        refuses("NOTHING", NOTHING, evening(), x -> x.copy(0, 0, 5, 0, 1));
        refuses("BEYOND", BEYOND, evening(), x -> x.copy(0, 0, 4, 0, 4));
        refuses("UNLIKE", UNLIKE, evening(5, 20, 6000), x -> x.on(5));
        refuses("NOUGHT", NOUGHT, evening(), x -> x.guesser(0));
        refuses("SIZE", SIZE, evening(), x -> x.text(0, -1));
        refuses("NONE", NONE, evening(5, 2), x -> x.soon(0, 0, 5, 4));
    }

    private static void newObject() {
        sentence(1, "No ROWS, TEXTS, BOXES, PLAYERS, LEAVES.");
        for (int r = 0; r < 6; r++) {
            int each = r;
            refuses("at(" + r + ", 0)", NOTHING, new PadRound(), x -> x.at(each, 0));
        }
        for (int t = 0; t < 4; t++) {
            int each = t;
            refuses("fault(" + t + ")", NOTHING, new PadRound(), x -> x.fault(each));
        }
        for (int land = 0; land < 2; land++) {
            int each = land;
            refuses("usual(" + land + ", 0, 0)", NOTHING, new PadRound(), x -> x.usual(each, 0, 0));
        }
        refuses("about(0, 0)", BAD, new PadRound(), x -> x.about(0, 0));
        refuses("told(0, 0)", BAD, new PadRound(), x -> x.told(0, 0));
        for (int what = 0; what < 8; what++) {
            due("count(" + what + ")", new PadRound().count(what), 0);
        }
    }

    private static void row() {
        sentence(0, "ROWS 0 .. 5 are rows of 0 to 40 ints");
        PadRound y = new PadRound();
        for (int r = 0; r < 6; r++) {
            due("row(" + r + ", 40)", y.row(r, 40), 40);
            asks("at(" + r + ", 39)", y, 0, y.at(r, 39));
            finds("at(" + r + ", 40)", y, BEYOND, y.at(r, 40));
            due("row(" + r + ", 0)", y.row(r, 0), 0);
            finds("at(" + r + ", 0)", y, BEYOND, y.at(r, 0));
        }
        due("all ROWS", y.count(6), 6);
        sentence(2, "A ROW is there with n ints 0: n.");
        y = new PadRound();
        fill(y, 1, 7, 8, 9);
        due("a shorter one", y.row(1, 2), 2);
        holds("a shorter one", y, 1, 0, 0);
        y.lay(1, 1, 5);
        due("a longer one", y.row(1, 4), 4);
        holds("a longer one", y, 1, 0, 0, 0, 0);
        sentence(2, "BAD: also n above 40");
        for (int n : new int[] {41, 42, 120, HIGH}) {
            refuses("row(0, " + n + ")", BAD, evening(), x -> x.row(0, n));
        }
        bad("row of 1", NO_ROW, (x, v) -> x.row(v, 1));
        sentence(2, "SIZE: below 0.");
        refuses("row(0, -1)", SIZE, evening(), x -> x.row(0, -1));
        refuses("row(5, LOW)", SIZE, evening(), x -> x.row(5, LOW));
        bad("row of -1", NO_ROW, (x, v) -> x.row(v, -1));
    }

    private static void lay() {
        sentence(3, "BAD; NOTHING; BEYOND.");
        bad("lay, place -1", NO_ROW, (x, v) -> x.lay(v, -1, 3));
        refuses("lay, no ROW, place -1", NOTHING, evening(), x -> x.lay(5, -1, 3));
        for (int i : new int[] {-1, 3, 40, LOW, HIGH}) {
            refuses("lay, place " + i, BEYOND, evening(), x -> x.lay(4, i, 3));
        }
        refuses("lay in an empty ROW", BEYOND, evening(), x -> x.lay(3, 0, 3));
        sentence(3, "what it was, told by asked(): 1.");
        PadRound y = evening();
        asks("the first place", y, 5, y.lay(4, 0, HIGH));
        asks("the last place", y, 9, y.lay(4, 2, LOW));
        asks("the highest", y, HIGH, y.lay(4, 0, 1));
        asks("the lowest", y, LOW, y.lay(4, 2, 2));
        holds("lay", y, 4, 1, 77, 2);
        y.row(0, 40);
        asks("the fortieth place", y, 0, y.lay(0, 39, 6));
        asks("the fortieth place", y, 6, y.lay(0, 39, 7));
    }

    private static void at() {
        sentence(4, "BAD; NOTHING; BEYOND.");
        bad("at, place -1", NO_ROW, (x, v) -> x.at(v, -1));
        refuses("at, no ROW, place -1", NOTHING, evening(), x -> x.at(5, -1));
        for (int i : new int[] {-1, 3, 40, LOW, HIGH}) {
            refuses("at, place " + i, BEYOND, evening(), x -> x.at(4, i));
        }
        refuses("at an empty ROW", BEYOND, evening(), x -> x.at(3, 0));
        sentence(4, "Place i of a ROW, told by asked(): 1.");
        PadRound y = evening(4, LOW, 0, HIGH);
        asks("the first place", y, LOW, y.at(4, 0));
        asks("the last place", y, HIGH, y.at(4, 2));
    }

    private static void tear() {
        sentence(5, "BAD; NOTHING.");
        bad("tear", NO_ROW, PadRound::tear);
        refuses("tear, no ROW", NOTHING, evening(), x -> x.tear(5));
        sentence(5, "A ROW is missing: 1.");
        PadRound y = evening();
        due("tear an empty one", y.tear(3), 1);
        refuses("tear it again", NOTHING, y, x -> x.tear(3));
        refuses("lay there", NOTHING, y, x -> x.lay(3, 0, 1));
        due("the others stay", y.count(6), 4);
        PadRound torn = new PadRound();
        fill(torn, 2, 8);
        torn.tear(2);
        due("as if it had never been", torn.digest(), new PadRound().digest());
        due("row(3, 1)", y.row(3, 1), 1);
        holds("it comes again", y, 3, 0);
    }

    private static void copy() {
        sentence(6, "BAD; SIZE: n below 0; NOTHING: either; BEYOND: not so many there");
        bad("copy from, n -1", NO_ROW, (x, v) -> x.copy(v, -1, 5, -1, -1));
        bad("copy to, n -1", NO_ROW, (x, v) -> x.copy(5, -1, v, -1, -1));
        sentence(6, "(In this order.)");
        refuses("n -1, no ROW, beyond", SIZE, evening(), x -> x.copy(5, -1, 5, -1, -1));
        refuses("n LOW, beyond", SIZE, evening(), x -> x.copy(0, 9, 1, 9, LOW));
        refuses("no ROW to take from, beyond", NOTHING, evening(), x -> x.copy(5, 0, 0, 9, 1));
        refuses("no ROW to come to, beyond", NOTHING, evening(), x -> x.copy(0, 9, 5, 0, 1));
        sentence(6, "BEYOND: not so many there");
        refuses("one too many to take", BEYOND, evening(), x -> x.copy(4, 0, 0, 0, 4));
        refuses("one too many to take, further on", BEYOND, evening(), x -> x.copy(4, 2, 0, 0, 2));
        refuses("one too many to come", BEYOND, evening(), x -> x.copy(0, 0, 4, 0, 4));
        refuses("one too many to come, further on", BEYOND, evening(), x -> x.copy(0, 0, 4, 1, 3));
        refuses("to an empty one", BEYOND, evening(), x -> x.copy(0, 0, 3, 0, 1));
        refuses("from an empty one", BEYOND, evening(), x -> x.copy(3, 0, 0, 0, 1));
        refuses("i and n wrap around", BEYOND, evening(), x -> x.copy(0, 1, 1, 0, HIGH));
        refuses("j and n wrap around", BEYOND, evening(), x -> x.copy(0, 0, 1, HIGH, 1));
        refuses("all wrap around", BEYOND, evening(), x -> x.copy(0, HIGH, 1, HIGH, HIGH));
        refuses("LOW and HIGH", BEYOND, evening(), x -> x.copy(0, LOW, 1, LOW, HIGH));
        refuses("-1 and 1", BEYOND, evening(), x -> x.copy(0, -1, 1, 0, 1));
        refuses("1 to -1", BEYOND, evening(), x -> x.copy(0, 0, 1, -1, 1));
        sentence(6, "(with n 0, too, if i or j is below 0 or above the size)");
        for (int i : new int[] {-1, 4, LOW, HIGH}) {
            refuses("none from " + i, BEYOND, evening(), x -> x.copy(4, i, 0, 0, 0));
            refuses("none to " + i, BEYOND, evening(), x -> x.copy(0, 0, 4, i, 0));
        }
        PadRound y = evening();
        due("none at the ends", y.copy(4, 3, 0, 4, 0), 1);
        due("none of none", y.copy(3, 0, 3, 0, 0), 1);
        holds("as it was", y, 0, 0, 1, 2, 3);
        sentence(6, "(perhaps itself) from one on, as if taken ahead: 1.");
        due("all of it to itself", y.copy(0, 0, 0, 0, 4), 1);
        due("up in itself", y.copy(0, 0, 0, 1, 3), 1);
        holds("up in itself", y, 0, 0, 0, 1, 2);
        due("down in itself", y.copy(0, 1, 0, 0, 3), 1);
        holds("down in itself", y, 0, 0, 1, 2, 2);
        y.row(5, 40);
        y.lay(5, 39, 6);
        due("forty", y.row(0, 40), 40);
        due("copy of forty", y.copy(5, 0, 0, 0, 40), 1);
        asks("the last of forty", y, 6, y.at(0, 39));
    }

    private static int[] forty(int v) {
        int[] all = new int[40];
        java.util.Arrays.fill(all, v);
        return all;
    }

    private static void mean() {
        sentence(7, "BAD; NOTHING; NOUGHT.");
        bad("mean", NO_ROW, PadRound::mean);
        refuses("mean of no ROW", NOTHING, evening(), x -> x.mean(5));
        refuses("mean of none", NOUGHT, evening(), x -> x.mean(3));
        sentence(7, "The mean of a ROW's ints, cut, told by asked(): 1.");
        PadRound y = new PadRound();
        int[][] rows = {{9}, {1, 2}, {-1, -2}, {-1, 0}, {1, 1, 1, 0}, {LOW, HIGH}, {HIGH, LOW, LOW}, forty(HIGH),
            forty(LOW)};
        int[] means = {9, 1, -1, 0, 0, 0, -715827883, HIGH, LOW};
        for (int i = 0; i < rows.length; i++) {
            fill(y, 0, rows[i]);
            asks("mean " + i, y, means[i], y.mean(0));
        }
    }

    private static void text() {
        sentence(0, "TEXTS 0 .. 3 rows of 0 to 120 bytes, or missing (at first).");
        PadRound y = new PadRound();
        for (int t = 0; t < 4; t++) {
            due("text(" + t + ", 120)", y.text(t, 120), 120);
            due("put(" + t + ", 119, 1)", y.put(t, 119, 1), 1032);
            finds("put(" + t + ", 120, 1)", y, BEYOND, y.put(t, 120, 1));
            due("text(" + t + ", 0)", y.text(t, 0), 0);
            finds("put(" + t + ", 0, 1)", y, BEYOND, y.put(t, 0, 1));
        }
        due("all TEXTS", y.count(7), 4);
        sentence(8, "A TEXT is there with n blanks: n.");
        y = new PadRound();
        write(y, 1, "xyz");
        due("a shorter one", y.text(1, 2), 2);
        due("its last byte", y.put(1, 1, 'x'), 1032);
        due("a longer one", y.text(1, 3), 3);
        for (int i = 0; i < 3; i++) {
            due("byte " + i, y.put(1, i, 0), 1032);
        }
        sentence(8, "BAD: also n above 120");
        for (int n : new int[] {121, 122, HIGH}) {
            refuses("text(0, " + n + ")", BAD, evening(), x -> x.text(0, n));
        }
        bad("text of 1", NO_TEXT, (x, v) -> x.text(v, 1));
        sentence(8, "SIZE: below 0.");
        refuses("text(0, -1)", SIZE, evening(), x -> x.text(0, -1));
        refuses("text(3, LOW)", SIZE, evening(), x -> x.text(3, LOW));
        bad("text of -1", NO_TEXT, (x, v) -> x.text(v, -1));
    }

    private static void put() {
        sentence(9, "BAD; NOTHING; BEYOND.");
        bad("put, byte -1", NO_TEXT, (x, v) -> x.put(v, -1, 1));
        refuses("put, no TEXT, byte -1", NOTHING, evening(), x -> x.put(3, -1, 1));
        for (int i : new int[] {-1, 22, 119, 120, LOW, HIGH}) {
            refuses("put, byte " + i, BEYOND, evening(), x -> x.put(0, i, 1));
        }
        refuses("put in an empty TEXT", BEYOND, evening(), x -> x.put(2, 0, 1));
        sentence(9, "cut to a byte (-128 .. 127): what it was, and 1000 more.");
        PadRound y = new PadRound();
        y.text(0, 2);
        int[] put = {127, 128, -128, -129, 255, 256, -256, LOW, HIGH, 375, 0};
        int[] was = {32, 127, -128, -128, 127, -1, 0, 0, 0, -1, 119};
        for (int i = 0; i < put.length; i++) {
            due("put(0, 1, " + put[i] + ")", y.put(0, 1, put[i]), was[i] + 1000);
        }
        due("byte 0 stays", y.put(0, 0, 0), 1032);
        due("asked() is not told", y.asked(), 0);
    }

    /** The FAULT of a TEXT, or how many WORDS a BOX of it has. */
    private static void faultOf(String s, int fault, int words) {
        PadRound y = new PadRound();
        write(y, 2, s);
        due("fault of '" + s + "'", y.fault(2), fault);
        due("box of '" + s + "'", y.box(0, 2), fault == NONE ? words : STATE);
        due("count(0) by '" + s + "'", y.count(0), fault == NONE ? words : 0);
    }

    private static void faultOf(String s, int fault) {
        faultOf(s, fault, 0);
    }

    private static void boxesAsTold() {
        sentence(0, "blanks (32) ahead, between, behind as many as wanted, none within items");
        String one = "w0000000001";
        faultOf(one, NONE, 1);
        faultOf(" ".repeat(109) + one, NONE, 1);
        faultOf(one + " ".repeat(109), NONE, 1);
        faultOf(one + " ".repeat(98) + one, NONE, 2);
        faultOf(" ".repeat(16) + EIGHT + " ".repeat(16), NONE, 8);
        faultOf(one + one, NONE, 2);
        for (int i = 1; i <= 10; i++) {
            faultOf(" w1111111111".substring(0, i + 1) + " " + "1111111111".substring(i - 1), i + 1);
        }
        for (int sign : new int[] {0, 9, 10, 31, 33, 160}) {
            faultOf((char) sign + one, 0);
            faultOf(one + (char) sign + one, 11);
            faultOf(one + (char) sign, 11);
        }
        sentence(0, "1 to 8 items");
        faultOf("w1000000000", NONE, 1);
        faultOf(EIGHT, NONE, 8);
        faultOf(EIGHT + "w1000000000", 88);
        sentence(0, "w (119) and ten figures 0 .. 9");
        faultOf("w0123456789", NONE, 1);
        faultOf("w9999999999", NONE, 1);
        faultOf("w99999999999", 11);
        for (char sign : new char[] {'v', 'x', 'W', '0', '9', (char) (119 + 128)}) {
            faultOf(sign + "0000000001", 0);
            faultOf("  " + one + " " + sign + "0000000001", 14);
        }
        sentence(0, "(one of them 1 at least)");
        for (int part = 0; part < 10; part++) {
            char[] figures = "w0000000000".toCharArray();
            figures[part + 1] = '1';
            faultOf(new String(figures), NONE, 1);
        }
        faultOf("w0000000000", 11);
    }

    private static void fault() {
        sentence(10, "BAD; NOTHING.");
        bad("fault", NO_TEXT, PadRound::fault);
        refuses("fault of no TEXT", NOTHING, evening(), x -> x.fault(3));
        sentence(10, "NONE: there is none.");
        PadRound y = evening();
        due("fault(0)", y.fault(0), NONE);
        due("fault of an empty TEXT", y.fault(2), 0);
        due("findings(1)", y.findings(1), 0);
    }

    private static void faultsTold() {
        sentence(0, "a figure that is none: its place");
        for (int i = 1; i <= 10; i++) {
            for (char sign : new char[] {'/', ':', 'w', ' ', 'a', (char) (48 + 128), 0}) {
                char[] s = "w1111111111w1111111111".toCharArray();
                s[i] = sign;
                faultOf(new String(s), i);
                s = "w1111111111w1111111111".toCharArray();
                s[11 + i] = sign;
                faultOf(new String(s), 11 + i);
            }
        }
        faultOf("w000000000x", 10);
        sentence(0, "the tenth one, if all are 0: the place behind");
        faultOf("  w0000000000", 13);
        faultOf("w0000000000 ", 11);
        faultOf("w0000000000x", 11);
        faultOf("w0000000000w1000000000", 11);
        faultOf("w1000000000 w0000000000   w1000000000", 23);
        faultOf(EIGHT.substring(0, 77) + "w0000000000", 88);
        faultOf(EIGHT.substring(0, 77) + "w0000000000w1", 88);
        faultOf(" ".repeat(109) + "w0000000000", 120);
        sentence(0, "a ninth w: its letter");
        faultOf(EIGHT + "w", 88);
        faultOf(EIGHT + "   w0000000000", 91);
        faultOf(EIGHT + " ".repeat(31) + "w", 119);
        faultOf("  " + EIGHT + "x", 90);
        sentence(0, "the TEXT's size, if its end comes too early, or there is no WORD");
        faultOf("", 0);
        faultOf(" ", 1);
        faultOf(" ".repeat(120), 120);
        for (int n = 1; n <= 10; n++) {
            faultOf("w1111111111".substring(0, n), n);
            faultOf("w0000000000".substring(0, n), n);
            faultOf(" w1111111111 " + "w1111111111".substring(0, n), 13 + n);
        }
        faultOf(" ".repeat(119) + "w", 120);
    }

    private static void box() {
        sentence(11, "BAD; NOTHING; STATE: a FAULT. (STATE behind NOTHING.)");
        bad("box of a LAND, no TEXT", NO_LAND, (x, v) -> x.box(v, 3));
        bad("box of a LAND, a FAULT", NO_LAND, (x, v) -> x.box(v, 2));
        bad("box by a TEXT", NO_TEXT, (x, v) -> x.box(0, v));
        refuses("box, no TEXT", NOTHING, evening(), x -> x.box(0, 3));
        refuses("box(1, ..), no TEXT", NOTHING, evening(), x -> x.box(1, 3));
        refuses("box, an empty TEXT", STATE, evening(), x -> x.box(0, 2));
        PadRound z = evening();
        z.put(0, 21, 'x');
        refuses("box, a FAULT in the last byte", STATE, z, x -> x.box(1, 0));
        due("the PLAYERS stay", z.count(2), 8);
        due("the LEAVES stay", z.count(4), 3);
        sentence(11, "(anew; PLAYERS, LEAVES go): how many WORDS.");
        for (int land = 0; land < 2; land++) {
            PadRound y = evening();
            due("box of LAND " + land, y.box(land, land), 2);
            due("no PLAYERS", y.count(2), 0);
            due("no LEAVES", y.count(4), 0);
            due("no guesses", y.count(5), 0);
            refuses("about(0, 0)", BAD, y, x -> x.about(0, 0));
            refuses("told(0, 0)", BAD, y, x -> x.told(0, 0));
            due("the first PLAYER again", y.player(3, 0, 1, 1), 0);
            asks("about(0, 0)", y, 3, y.about(0, 0));
        }
        PadRound y = world(EIGHT);
        due("eight WORDS", y.count(0), 8);
        write(y, 1, "  w2000000003");
        due("one WORD instead", y.box(0, 1), 1);
        due("usual(0, 0, 9)", y.usual(0, 0, 9), 3);
        refuses("usual(0, 1, 1)", BAD, y, x -> x.usual(0, 1, 1));
        due("the ninth TEXT byte", y.put(1, 2, 'x'), 1119);
        due("the BOX stays when its TEXT goes", y.usual(0, 0, 0), 2);
    }

    private static void boxesThatCount() {
        sentence(0, "WORDS 0, 1, .. are as many as BOX 0 has; BOX 1 counts only if it has as many.");
        PadRound y = new PadRound();
        write(y, 1, TWO);
        due("BOX 1 ahead of BOX 0", y.box(1, 1), 2);
        due("no WORDS", y.count(0), 0);
        due("no BOX counts", y.count(1), 0);
        refuses("usual(1, 0, 0)", NOTHING, y, x -> x.usual(1, 0, 0));
        refuses("player of LAND 1", NOTHING, y, x -> x.player(0, 1, 1, 0));
        write(y, 0, "w1000000000");
        due("BOX 0 has fewer", y.box(0, 0), 1);
        due("BOX 0 alone counts", y.count(1), 1);
        refuses("usual(1, 0, 0)", NOTHING, y, x -> x.usual(1, 0, 0));
        write(y, 0, TWO_ABROAD);
        due("BOX 0 has as many", y.box(0, 0), 2);
        due("both count", y.count(1), 2);
        due("usual(1, 1, 1)", y.usual(1, 1, 1), 6);
        write(y, 0, HIDDEN);
        due("BOX 0 has more", y.box(0, 0), 3);
        due("BOX 0 alone counts", y.count(1), 1);
        refuses("player of LAND 1", NOTHING, y, x -> x.player(0, 1, 1, 0));
        due("usual(0, 2, 1)", y.usual(0, 2, 1), 5);
    }

    private static void usual() {
        sentence(12, "BAD (a WORD 0 .. 7); NOTHING: the BOX, or it does not count; BAD: no such WORD. (In this order.)");
        int[] noPart = {-1, 10, LOW, HIGH};
        int[] never = {-1, 8, LOW, HIGH};
        bad("usual of a LAND", NO_LAND, (x, v) -> x.usual(v, 0, 0));
        bad("usual of a WORD", NO_WORD, (x, v) -> x.usual(0, v, 0));
        bad("usual of a PART", noPart, (x, v) -> x.usual(0, 0, v));
        for (int v : never) {
            refuses("no BOX, WORD " + v, BAD, new PadRound(), x -> x.usual(0, v, 0));
            refuses("BOX 1 does not count, WORD " + v, BAD, world(TWO, HIDDEN), x -> x.usual(1, v, 0));
        }
        for (int v : noPart) {
            refuses("no BOX, PART " + v, BAD, new PadRound(), x -> x.usual(0, 0, v));
        }
        refuses("no BOX, WORD 7", NOTHING, new PadRound(), x -> x.usual(0, 7, 9));
        refuses("no BOX 1, WORD 7", NOTHING, world(TWO), x -> x.usual(1, 7, 9));
        refuses("BOX 1 has more, WORD 7", NOTHING, world(TWO, HIDDEN), x -> x.usual(1, 7, 9));
        refuses("BOX 1 has fewer, WORD 0", NOTHING, world(HIDDEN, TWO), x -> x.usual(1, 0, 0));
        refuses("WORD 2 of two", BAD, world(TWO, TWO), x -> x.usual(1, 2, 0));
        PadRound y = world(EIGHT, EIGHT);
        due("the last WORD", y.usual(1, 7, 7), 1);
        due("the last PART", y.usual(0, 7, 9), 0);
    }

    private static void player() {
        sentence(13, "BAD (a FAVOURITE 0 .. 7); NOTHING: the BOX of his LAND, or it does not count;");
        int[] never = {-1, 8, LOW, HIGH};
        for (int v : never) {
            refuses("FAVOURITE " + v + ", no BOX", BAD, new PadRound(), x -> x.player(0, 0, 1, v));
        }
        for (int v : new int[] {-1, 6, LOW, HIGH}) {
            refuses("KIND " + v + ", no BOX", BAD, new PadRound(), x -> x.player(v, 0, 1, 0));
        }
        for (int v : NO_LAND) {
            refuses("LAND " + v + ", no BOX", BAD, new PadRound(), x -> x.player(0, v, 1, 0));
        }
        sentence(0, "PARTS that they draw (1 .. 6)");
        for (int v : new int[] {-1, 0, 7, LOW, HIGH}) {
            refuses("PARTS " + v + ", no BOX", BAD, new PadRound(), x -> x.player(0, 0, v, 0));
        }
        PadRound y = world(EIGHT, EIGHT);
        due("the least", y.player(0, 0, 1, 0), 0);
        due("the most", y.player(5, 1, 6, 7), 1);
        asks("his KIND", y, 5, y.about(1, 0));
        asks("his LAND", y, 1, y.about(1, 1));
        asks("his PARTS", y, 6, y.about(1, 2));
        asks("his FAVOURITE", y, 7, y.about(1, 3));
        sentence(13, "BAD: no such WORD; FULL. (In this order.)");
        refuses("no BOX, FAVOURITE 7", NOTHING, new PadRound(), x -> x.player(0, 0, 1, 7));
        refuses("BOX 1 does not count, FAVOURITE 7", NOTHING, world(TWO, HIDDEN), x -> x.player(0, 1, 1, 7));
        refuses("no such WORD", BAD, world(TWO), x -> x.player(0, 0, 1, 2));
        sentence(0, "PLAYERS 0, 1, .. (8 at most)");
        refuses("a ninth", FULL, evening(), x -> x.player(0, 0, 1, 0));
        refuses("a ninth of KIND 6", BAD, evening(), x -> x.player(6, 0, 1, 0));
        refuses("a ninth, no such WORD", BAD, evening(), x -> x.player(0, 0, 1, 2));
        PadRound full = world(TWO, HIDDEN);
        for (int p = 0; p < 8; p++) {
            due("PLAYER " + p, full.player(0, 0, 1, 0), p);
        }
        refuses("a ninth, no BOX", NOTHING, full, x -> x.player(0, 1, 1, 0));
        refuses("a ninth", FULL, full, x -> x.player(0, 0, 1, 0));
    }

    private static void about() {
        sentence(14, "BAD.");
        bad("about one", NO_PLAYER, (x, v) -> x.about(v, 0));
        bad("about, what", new int[] {-1, 4, LOW, HIGH}, (x, v) -> x.about(0, v));
        refuses("nobody is there", BAD, world(TWO), x -> x.about(0, 0));
        PadRound y = evening();
        asks("the last one", y, 1, y.about(7, 3));
    }

    private static void mark() {
        sentence(15, "BAD: also KIND 0; UNLIKE.");
        bad("mark of one", NO_PLAYER, (x, v) -> x.mark(v, 1));
        bad("mark by a KIND", new int[] {0, -1, 6, LOW, HIGH}, (x, v) -> x.mark(0, v));
        for (int p = 0; p < 6; p++) {
            for (int kind = 1; kind < 6; kind++) {
                int each = p;
                int by = kind;
                if (p != kind && !(p == 4 && kind == 1)) {
                    refuses("mark(" + p + ", " + kind + ")", UNLIKE, evening(), x -> x.mark(each, by));
                }
            }
        }
        sentence(15, "a SLOPPY one (TURNED, too) how many PARTS he draws of WORD 0");
        PadRound y = world("w5000000000w0500000000");
        y.player(1, 0, 1, 0);
        y.player(4, 0, 1, 1);
        y.player(1, 0, 6, 0);
        due("1 at least", y.mark(0, 1), 1);
        due("1 at least, TURNED", y.mark(1, 1), 1);
        due("no more than there are", y.mark(2, 1), 1);
        y = world("w5000000000w1110000000");
        y.player(1, 0, 4, 0);
        y.player(4, 0, 4, 1);
        y.player(2, 0, 4, 1);
        due("not of WORD 1", y.mark(0, 1), 1);
        sentence(15, "a FIXED one the SHARE of his FAVOURITE by PART 0 alone");
        y.draws(0, 1, 0);
        due("SUMS 5, 10", y.mark(2, 2), 16);
        sentence(15, "a TURNED one the WORD of the greatest SHARE by PART 0 alone");
        y = world("w0500000050w0000000001w5000000000");
        y.player(4, 0, 4, 1);
        y.player(4, 0, 1, 1);
        y.draws(0, 0, 0);
        due("PART 9 is of WORD 1", y.mark(0, 4), 1);
        y = world(SHARP);
        y.player(0, 0, 1, 0);
        y.player(4, 0, 1, 1);
        due("PART 9 is nowhere: his FAVOURITE", y.mark(1, 4), 1);
        sentence(15, "of how many PLAYERS (himself, too) he has a greater SHARE of WORD 0");
        y = world(SHARP);
        y.player(5, 0, 1, 0);
        y.player(0, 0, 1, 0);
        due("none: it is 24 anyway", y.mark(0, 5), 0);
        y = world("w5000000000w5000000000");
        y.player(5, 0, 1, 0);
        due("none: as much more for both", y.mark(0, 5), 0);
        y = world("w2200000000w2020000000");
        y.player(5, 0, 2, 0);
        // [0, 1], SUMS 4, 2: 16; 12, 6 if he knows: 16. [0, 2] would be drawn of WORD 1.
        due("himself: as great", y.mark(0, 5), 0);
        y = world("w3200000000w2300000000");
        y.player(5, 0, 1, 0);
        // [0], SUMS 3, 2: 15; 7, 2 if he knows: 19.
        due("himself alone", y.mark(0, 5), 1);
    }

    private static void draws() {
        sentence(16, "comes to a ROW (anew): how many PARTS. BAD.");
        bad("draws of one", NO_PLAYER, (x, v) -> x.draws(v, 0, 5));
        bad("draws a WORD", NO_WORD, (x, v) -> x.draws(0, v, 5));
        bad("draws to a ROW", NO_ROW, (x, v) -> x.draws(0, 0, v));
        PadRound y = evening();
        due("to a missing ROW", y.draws(0, 1, 5), 2);
        holds("to a missing ROW", y, 5, 1, 2);
        due("to an empty ROW", y.draws(0, 1, 3), 2);
        holds("to an empty ROW", y, 3, 1, 2);
        due("to a longer ROW", y.draws(1, 1, 4), 1);
        holds("to a longer ROW", y, 4, 1);
        sentence(0, "(of alike ones the first), above 0, so many, the most USUAL first");
        y = world("w5555555555w0000000003w0102030405");
        y.player(0, 0, 6, 0);
        due("six of ten alike", y.draws(0, 0, 0), 6);
        holds("six of ten alike", y, 0, 0, 1, 2, 3, 4, 5);
        due("one above 0", y.draws(0, 1, 0), 1);
        holds("one above 0", y, 0, 9);
        due("the most USUAL first", y.draws(0, 2, 0), 5);
        holds("the most USUAL first", y, 0, 9, 7, 5, 3, 1);
        sentence(0, "a SLOPPY one (TURNED, too) one fewer (1 at least)");
        for (int kind = 0; kind < 6; kind++) {
            for (int n = 1; n <= 6; n++) {
                y = world("w1234567891");
                y.player(kind, 0, n, 0);
                boolean sloppy = kind == 1 || kind == 4;
                due("KIND " + kind + " by " + n, y.draws(0, 0, 0), sloppy && n > 1 ? n - 1 : n);
            }
        }
    }

    private static void guess() {
        sentence(17, "BAD; NOTHING; SIZE: not 1 to 6; UNLIKE: a PART that is none, or twice.");
        bad("guess of one", NO_PLAYER, (x, v) -> x.guess(v, 5, NONE, 1));
        bad("guess by one", new int[] {-1, -8, -10, 8, LOW, HIGH}, (x, v) -> x.guess(0, 5, v, 1));
        bad("guess to a ROW", NO_ROW, (x, v) -> x.guess(0, 5, NONE, v));
        drawnRefusals("guess", (x, v) -> x.guess(0, v, 0, 1));
        sentence(17, "by one (himself is let; NONE: not known) come to a ROW (anew)");
        PadRound y = evening();
        due("by himself", y.guess(5, 2, 5, 5), 0);
        holds("by himself, SUMS 16, 10", y, 5, 15, 9);
        due("not known", y.guess(5, 2, NONE, 3), 0);
        holds("not known, SUMS 8, 6", y, 3, 14, 10);
        due("by the last one", y.guess(5, 2, 7, 4), 0);
        // He draws [0, 9] and [2, 3]: 4 more for WORD 0.
        holds("by the last one, SUMS 12, 6", y, 4, 16, 8);
        due("to the ROW itself", y.guess(0, 2, NONE, 2), 0);
        holds("to the ROW itself", y, 2, 14, 10);
        sentence(17, "the WORD of the greatest (the first).");
        y = world("w1100000000w1200000000w2100000000");
        y.player(0, 0, 1, 0);
        fill(y, 0, 0, 1);
        due("alike ones", y.guess(0, 0, NONE, 1), 1);
        holds("SUMS 2, 3, 3", y, 1, 6, 9, 9);
    }

    private static void shares() {
        sentence(0, "what lacks goes to the WORD of the greatest SUM (of alike ones the first)");
        PadRound y = world("w1000000000w3000000000w3000000000");
        y.player(0, 0, 1, 0);
        fill(y, 0, 0);
        due("SUMS 1, 3, 3", y.guess(0, 0, NONE, 1), 1);
        holds("3, 10, 10, and 1 lacks", y, 1, 3, 11, 10);
        y = world("w3000000000w1000000000w3000000000");
        y.player(0, 0, 1, 1);
        fill(y, 0, 0);
        due("SUMS 3, 1, 3", y.guess(0, 0, NONE, 1), 0);
        holds("10, 3, 10, and 1 lacks", y, 1, 11, 3, 10);
        sentence(0, "if all SUMS are 0, all 24 to the FAVOURITE");
        y = world(HIDDEN);
        for (int kind = 0; kind < 6; kind++) {
            y.player(kind, 0, 1, 2);
        }
        fill(y, 0, 5, 4, 7);
        for (int p = 0; p < 6; p++) {
            due("PARTS that are nowhere, KIND " + p, y.guess(p, 0, NONE, 1), 2);
            holds("KIND " + p, y, 1, 0, 0, 24);
        }
        sentence(0, "PARTED: by the first PART alone");
        fill(y, 0, 5, 0);
        due("the first is nowhere", y.guess(3, 0, NONE, 1), 2);
        holds("the first is nowhere", y, 1, 0, 0, 24);
        sentence(0, "TURNED: PART 9 less p for each p");
        fill(y, 0, 9);
        due("PART 9 is PART 0", y.guess(4, 0, NONE, 1), 1);
        holds("SUMS 4, 5, 0", y, 1, 10, 14, 0);
        fill(y, 0, 0);
        due("PART 0 is PART 9", y.guess(4, 0, NONE, 1), 2);
        sentence(0, "(if he knows who did)");
        fill(y, 0, 1);
        due("he does not", y.guess(5, 0, NONE, 1), 2);
        holds("SUMS 4, 0, 5", y, 1, 10, 0, 14);
        due("he does, [0] is drawn of WORDS 0, 1, [1] of WORD 2", y.guess(5, 0, 5, 1), 2);
        holds("SUMS 4, 0, 9", y, 1, 7, 0, 17);
        sentence(0, "SHARES of WORDS are 24 together");
        y = world(EIGHT.replace('0', '1'));
        y.player(0, 0, 1, 0);
        fill(y, 0, 0);
        due("eight alike", y.guess(0, 0, NONE, 1), 0);
        holds("eight alike", y, 1, 3, 3, 3, 3, 3, 3, 3, 3);
        sentence(0, "Sets are told by bits.");
        y = world("w0000000001", "w1000000001");
        both("the last PART and the first", y, 512, 1, y.common(0, 1));
        due("no set is beyond them", BigInteger.valueOf(y.common(0, 1)).bitLength(), 10);
    }
}
