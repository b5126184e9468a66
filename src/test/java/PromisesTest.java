/**
 * One test for each promise of the document at least, with answers worked out by hand:
 * ordinary inputs, the edges that the document names, wrong inputs and the order of refusals.
 */
public final class PromisesTest extends Checks {
    public static void main(String[] args) {
        newObject();
        row();
        lay();
        at();
        tear();
        copy();
        mean();
        text();
        put();
        fault();
        box();
        usual();
        player();
        about();
        mark();
        draws();
        guess();
        step();
        comes();
        most();
        keeps();
        was();
        off();
        kept();
        seats();
        parts();
        few();
        soon();
        common();
        land();
        leaf();
        guessed();
        told();
        back();
        hand();
        guesser();
        machine();
        held();
        sign();
        stranger();
        image();
        on();
        asked();
        upperLower();
        count();
        findings();
        digest();
        end("every promise is kept");
    }

    private static void newObject() {
        promise = 1;
        PadRound x = new PadRound();
        for (int what = 0; what < 8; what++) {
            due("count(" + what + ")", x.count(what), 0);
        }
        due("finding()", x.finding(), 0);
        due("asked()", x.asked(), 0);
        tells("new", x, 0, 1);
        for (int f = 1; f <= 5; f++) {
            due("findings(" + f + ")", x.findings(f), 0);
        }
        due("constants", PadRound.BAD * 100000 + PadRound.FULL * 10000 + PadRound.FINDING * 1000
                + PadRound.STATE * 100 + PadRound.SPENT * 10 + PadRound.NONE, -123469);
    }

    private static void row() {
        promise = 2;
        PadRound x = new PadRound();
        due("row(0, 40)", x.row(0, 40), 40);
        due("row(5, 0)", x.row(5, 0), 0);
        due("row(0, 41)", x.row(0, 41), BAD);
        due("row(6, 1)", x.row(6, 1), BAD);
        due("row(-1, -1)", x.row(-1, -1), BAD);
        due("finding()", x.finding(), 0);
        finds("row(0, -1)", x, SIZE, x.row(0, -1));
        finds("row(0, LOW)", x, SIZE, x.row(0, LOW));
        x.lay(0, 1, 7);
        due("row(0, 2)", x.row(0, 2), 2);
        holds("row(0, 2)", x, 0, 0, 0);
    }

    private static void lay() {
        promise = 3;
        PadRound x = new PadRound();
        finds("lay(0, 0, 1)", x, NOTHING, x.lay(0, 0, 1));
        due("lay(6, 0, 1)", x.lay(6, 0, 1), BAD);
        x.row(0, 2);
        asks("lay(0, 1, 8)", x, 0, x.lay(0, 1, 8));
        asks("lay(0, 1, LOW)", x, 8, x.lay(0, 1, LOW));
        asks("lay(0, 1, 3)", x, LOW, x.lay(0, 1, 3));
        finds("lay(0, 2, 1)", x, BEYOND, x.lay(0, 2, 1));
        finds("lay(0, -1, 1)", x, BEYOND, x.lay(0, -1, 1));
        due("asked() stays", x.asked(), LOW);
        holds("lay", x, 0, 0, 3);
    }

    private static void at() {
        promise = 4;
        PadRound x = new PadRound();
        due("at(-1, 0)", x.at(-1, 0), BAD);
        due("at(6, 0)", x.at(6, 0), BAD);
        finds("at(5, 0)", x, NOTHING, x.at(5, 0));
        x.row(5, 0);
        finds("at(5, 0)", x, BEYOND, x.at(5, 0));
        fill(x, 5, 4, -5);
        asks("at(5, 1)", x, -5, x.at(5, 1));
        finds("at(5, HIGH)", x, BEYOND, x.at(5, HIGH));
        finds("at(5, LOW)", x, BEYOND, x.at(5, LOW));
    }

    private static void tear() {
        promise = 5;
        PadRound x = new PadRound();
        due("tear(6)", x.tear(6), BAD);
        due("tear(-1)", x.tear(-1), BAD);
        finds("tear(1)", x, NOTHING, x.tear(1));
        x.row(1, 0);
        due("tear(1)", x.tear(1), 1);
        due("count(6)", x.count(6), 0);
        finds("tear(1)", x, NOTHING, x.tear(1));
    }

    private static void copy() {
        promise = 6;
        PadRound x = new PadRound();
        due("copy(6, 0, 0, 0, -1)", x.copy(6, 0, 0, 0, -1), BAD);
        due("copy(0, 0, -1, 0, -1)", x.copy(0, 0, -1, 0, -1), BAD);
        finds("copy(0, 0, 1, 0, -1)", x, SIZE, x.copy(0, 0, 1, 0, -1));
        finds("copy(0, 9, 1, 9, 0)", x, NOTHING, x.copy(0, 9, 1, 9, 0));
        fill(x, 0, 1, 2, 3, 4, 5);
        finds("copy(0, 9, 1, 9, 0)", x, NOTHING, x.copy(0, 9, 1, 9, 0));
        due("copy(0, 0, 0, 1, 4)", x.copy(0, 0, 0, 1, 4), 1);
        holds("copy up in itself", x, 0, 1, 1, 2, 3, 4);
        due("copy(0, 2, 0, 0, 3)", x.copy(0, 2, 0, 0, 3), 1);
        holds("copy down in itself", x, 0, 2, 3, 4, 3, 4);
        x.row(1, 3);
        due("copy(0, 3, 1, 1, 2)", x.copy(0, 3, 1, 1, 2), 1);
        holds("copy to another", x, 1, 0, 3, 4);
        finds("copy(0, 3, 1, 0, 3)", x, BEYOND, x.copy(0, 3, 1, 0, 3));
        finds("copy(0, 0, 1, 2, 2)", x, BEYOND, x.copy(0, 0, 1, 2, 2));
        due("copy(0, 5, 1, 3, 0)", x.copy(0, 5, 1, 3, 0), 1);
        finds("copy(0, 6, 1, 3, 0)", x, BEYOND, x.copy(0, 6, 1, 3, 0));
        finds("copy(0, 5, 1, 4, 0)", x, BEYOND, x.copy(0, 5, 1, 4, 0));
        finds("copy(0, -1, 1, 0, 0)", x, BEYOND, x.copy(0, -1, 1, 0, 0));
        finds("copy(0, 0, 1, -1, 0)", x, BEYOND, x.copy(0, 0, 1, -1, 0));
        finds("copy(0, 1, 1, 1, HIGH)", x, BEYOND, x.copy(0, 1, 1, 1, HIGH));
        finds("copy(0, HIGH, 1, HIGH, HIGH)", x, BEYOND, x.copy(0, HIGH, 1, HIGH, HIGH));
        finds("copy(0, LOW, 1, LOW, HIGH)", x, BEYOND, x.copy(0, LOW, 1, LOW, HIGH));
        holds("copy refused", x, 1, 0, 3, 4);
    }

    private static void mean() {
        promise = 7;
        PadRound x = new PadRound();
        due("mean(6)", x.mean(6), BAD);
        finds("mean(0)", x, NOTHING, x.mean(0));
        x.row(0, 0);
        finds("mean(0)", x, NOUGHT, x.mean(0));
        fill(x, 0, 1, 2, 5);
        asks("mean of 1 2 5", x, 2, x.mean(0));
        fill(x, 0, -1, -2, -2);
        asks("mean of -1 -2 -2", x, -1, x.mean(0));
        fill(x, 0, HIGH, HIGH, HIGH);
        asks("mean of the highest", x, HIGH, x.mean(0));
        fill(x, 0, LOW, LOW);
        asks("mean of the lowest", x, LOW, x.mean(0));
    }

    private static void text() {
        promise = 8;
        PadRound x = new PadRound();
        due("text(4, 0)", x.text(4, 0), BAD);
        due("text(-1, -1)", x.text(-1, -1), BAD);
        due("text(0, 121)", x.text(0, 121), BAD);
        finds("text(0, -1)", x, SIZE, x.text(0, -1));
        due("text(3, 120)", x.text(3, 120), 120);
        due("put(3, 119, 1)", x.put(3, 119, 1), 1032);
        due("text(3, 120)", x.text(3, 120), 120);
        due("put(3, 119, 1)", x.put(3, 119, 1), 1032);
        due("text(3, 0)", x.text(3, 0), 0);
        due("count(7)", x.count(7), 1);
    }

    private static void put() {
        promise = 9;
        PadRound x = new PadRound();
        due("put(4, 0, 0)", x.put(4, 0, 0), BAD);
        finds("put(0, 0, 0)", x, NOTHING, x.put(0, 0, 0));
        x.text(0, 2);
        finds("put(0, 2, 0)", x, BEYOND, x.put(0, 2, 0));
        finds("put(0, -1, 0)", x, BEYOND, x.put(0, -1, 0));
        due("put(0, 1, 255)", x.put(0, 1, 255), 1032);
        due("put(0, 1, 128)", x.put(0, 1, 128), 999);
        due("put(0, 1, -129)", x.put(0, 1, -129), 872);
        due("put(0, 1, 256)", x.put(0, 1, 256), 1127);
        due("put(0, 1, 0)", x.put(0, 1, 0), 1000);
        due("asked()", x.asked(), 0);
    }

    private static void faultOf(String s, int want) {
        PadRound x = new PadRound();
        write(x, 2, s);
        due("fault of '" + s + "'", x.fault(2), want);
        due("box of '" + s + "'", x.box(0, 2), want == NONE ? s.replaceAll("[^w]", "").length() : STATE);
    }

    private static void fault() {
        promise = 10;
        PadRound x = new PadRound();
        due("fault(4)", x.fault(4), BAD);
        due("fault(-1)", x.fault(-1), BAD);
        finds("fault(0)", x, NOTHING, x.fault(0));
        faultOf("", 0);
        faultOf("   ", 3);
        faultOf("w0000000001", NONE);
        faultOf("  w1000000000   w0100000000 ", NONE);
        faultOf(TWO, NONE);
        faultOf("x", 0);
        faultOf("  1", 2);
        faultOf("w", 1);
        faultOf("w123456789", 10);
        faultOf("w12345 6789", 6);
        faultOf("w 234567890", 1);
        faultOf("w12345678w9", 9);
        faultOf("w0000000000", 11);
        faultOf("w0000000000  ", 11);
        faultOf("w1000000000w0000000000w1000000000", 22);
        faultOf("w10000000000", 11);
        faultOf("w1000000000W", 11);
        faultOf("w000000000/", 10);
        faultOf("w000000000:", 10);
        faultOf("w000000000" + (char) (128 + 49), 10);
        String eight = "w1000000000".repeat(8);
        faultOf(eight, NONE);
        faultOf(" " + eight + "   ", NONE);
        faultOf(eight + " w1000000000", 89);
        faultOf(eight + " 1", 89);
    }

    private static void box() {
        promise = 11;
        PadRound x = new PadRound();
        due("box(2, 0)", x.box(2, 0), BAD);
        due("box(-1, 0)", x.box(-1, 0), BAD);
        due("box(0, 4)", x.box(0, 4), BAD);
        finds("box(0, 0)", x, NOTHING, x.box(0, 0));
        x.text(0, 3);
        due("box of blanks", x.box(0, 0), STATE);
        write(x, 0, TWO);
        due("box(0, 0)", x.box(0, 0), 2);
        x.put(0, 1, '9');
        due("the BOX is no longer the TEXT", x.usual(0, 0, 0), 6);
        x.text(0, 0);
        x.player(0, 0, 2, 0);
        fill(x, 0, 1);
        x.leaf(0, 0, 0);
        due("box of nothing", x.box(0, 0), STATE);
        due("PLAYERS stay", x.count(2), 1);
        due("LEAVES stay", x.count(4), 1);
        write(x, 1, "w1000000000");
        due("box(1, 1)", x.box(1, 1), 1);
        due("PLAYERS go", x.count(2), 0);
        due("LEAVES go", x.count(4), 0);
        due("BOX 1 does not count", x.count(1), 1);
        due("box(0, 1)", x.box(0, 1), 1);
        due("both count", x.count(1), 2);
        due("the ROW stays", x.count(6), 1);
    }

    private static void usual() {
        promise = 12;
        PadRound x = new PadRound();
        due("usual(2, 0, 0)", x.usual(2, 0, 0), BAD);
        due("usual(0, 8, 0)", x.usual(0, 8, 0), BAD);
        due("usual(0, -1, 0)", x.usual(0, -1, 0), BAD);
        due("usual(0, 0, 10)", x.usual(0, 0, 10), BAD);
        due("usual(0, 0, -1)", x.usual(0, 0, -1), BAD);
        finds("usual(0, 7, 0)", x, NOTHING, x.usual(0, 7, 0));
        x = world("w0123456789");
        for (int part = 0; part < 10; part++) {
            due("usual(0, 0, " + part + ")", x.usual(0, 0, part), part);
        }
        due("usual(0, 1, 0)", x.usual(0, 1, 0), BAD);
        finds("usual(1, 1, 0)", x, NOTHING, x.usual(1, 1, 0));
        write(x, 1, TWO);
        x.box(1, 1);
        finds("usual(1, 0, 0)", x, NOTHING, x.usual(1, 0, 0));
        x.box(0, 1);
        due("usual(1, 1, 1)", x.usual(1, 1, 1), 6);
        due("usual(1, 2, 1)", x.usual(1, 2, 1), BAD);
    }

    private static void player() {
        promise = 13;
        PadRound x = new PadRound();
        due("player(6, 0, 1, 0)", x.player(6, 0, 1, 0), BAD);
        due("player(-1, 0, 1, 0)", x.player(-1, 0, 1, 0), BAD);
        due("player(0, 2, 1, 0)", x.player(0, 2, 1, 0), BAD);
        due("player(0, 0, 0, 0)", x.player(0, 0, 0, 0), BAD);
        due("player(0, 0, 7, 0)", x.player(0, 0, 7, 0), BAD);
        due("player(0, 0, 1, 8)", x.player(0, 0, 1, 8), BAD);
        finds("player(0, 0, 1, 7)", x, NOTHING, x.player(0, 0, 1, 7));
        x = world(TWO);
        finds("player(0, 1, 1, 7)", x, NOTHING, x.player(0, 1, 1, 7));
        due("player(0, 0, 1, 2)", x.player(0, 0, 1, 2), BAD);
        for (int p = 0; p < 8; p++) {
            due("player " + p, x.player(p % 6, 0, 1 + p % 6, p % 2), p);
        }
        due("a ninth one", x.player(0, 0, 1, 0), FULL);
        due("a ninth one, no such WORD", x.player(0, 0, 1, 2), BAD);
        finds("a ninth one, no BOX", x, NOTHING, x.player(0, 1, 1, 0));
    }

    private static void about() {
        promise = 14;
        PadRound x = world(TWO, TWO_ABROAD);
        due("about(0, 0)", x.about(0, 0), BAD);
        x.player(4, 1, 5, 1);
        asks("about(0, 0)", x, 4, x.about(0, 0));
        asks("about(0, 1)", x, 1, x.about(0, 1));
        asks("about(0, 2)", x, 5, x.about(0, 2));
        asks("about(0, 3)", x, 1, x.about(0, 3));
        due("about(0, 4)", x.about(0, 4), BAD);
        due("about(0, -1)", x.about(0, -1), BAD);
        due("about(1, 0)", x.about(1, 0), BAD);
        due("about(-1, 0)", x.about(-1, 0), BAD);
    }

    private static void mark() {
        promise = 15;
        PadRound x = world(TWO);
        x.player(0, 0, 2, 0);
        x.player(1, 0, 2, 0);
        x.player(2, 0, 2, 1);
        x.player(3, 0, 5, 0);
        x.player(4, 0, 2, 1);
        x.player(5, 0, 2, 0);
        due("mark(6, 1)", x.mark(6, 1), BAD);
        due("mark(0, 0)", x.mark(0, 0), BAD);
        due("mark(0, 6)", x.mark(0, 6), BAD);
        due("mark(0, -1)", x.mark(0, -1), BAD);
        for (int p = 0; p < 6; p++) {
            for (int kind = 1; kind < 6; kind++) {
                if (p != kind && !(p == 4 && kind == 1)) {
                    finds("mark(" + p + ", " + kind + ")", x, UNLIKE, x.mark(p, kind));
                }
            }
        }
        due("a SLOPPY one", x.mark(1, 1), 1);
        due("a FIXED one: SUMS 6, 9", x.mark(2, 2), 15);
        due("a PARTED one", x.mark(3, 3), 5);
        due("a TURNED one as SLOPPY", x.mark(4, 1), 1);
        due("a TURNED one: PART 9 is nowhere", x.mark(4, 4), 1);
        // Of 0, 2, 3 and himself, who draw [0, 1]: 15 against 14; [0] is 24 anyway.
        due("a READER", x.mark(5, 5), 4);
    }

    private static void draws() {
        promise = 16;
        PadRound x = world("w1050900055w0000000003", "w1000000000w0100000000");
        x.player(0, 0, 6, 0);
        x.player(1, 0, 3, 0);
        x.player(4, 0, 1, 0);
        x.player(0, 1, 6, 0);
        due("draws(0, 0, 3)", x.draws(0, 0, 3), 5);
        holds("a plain one", x, 3, 4, 2, 8, 9, 0);
        due("draws(1, 0, 3)", x.draws(1, 0, 3), 2);
        holds("a SLOPPY one", x, 3, 4, 2);
        due("draws(2, 0, 3)", x.draws(2, 0, 3), 1);
        holds("a TURNED one, 1 at least", x, 3, 4);
        due("draws(0, 1, 3)", x.draws(0, 1, 3), 1);
        holds("only above 0", x, 3, 9);
        due("draws(1, 1, 3)", x.draws(1, 1, 3), 1);
        due("draws(3, 1, 3)", x.draws(3, 1, 3), 1);
        holds("in his LAND", x, 3, 1);
        due("draws(4, 0, 0)", x.draws(4, 0, 0), BAD);
        due("draws(0, 2, 0)", x.draws(0, 2, 0), BAD);
        due("draws(0, -1, 0)", x.draws(0, -1, 0), BAD);
        due("draws(0, 0, 6)", x.draws(0, 0, 6), BAD);
    }

    private static void guess() {
        promise = 17;
        PadRound x = world(TWO, TWO_ABROAD);
        x.player(0, 0, 2, 1);
        x.player(2, 0, 2, 1);
        x.player(3, 0, 2, 1);
        x.player(4, 0, 2, 1);
        x.player(5, 0, 2, 1);
        x.player(0, 1, 2, 0);
        fill(x, 0, 0, 1);
        due("a plain one", x.guess(0, 0, NONE, 1), 0);
        holds("a plain one, SUMS 8, 6", x, 1, 14, 10);
        due("a FIXED one", x.guess(1, 0, 0, 1), 1);
        holds("a FIXED one, SUMS 8, 15", x, 1, 8, 16);
        due("a PARTED one", x.guess(2, 0, NONE, 1), 0);
        holds("a PARTED one", x, 1, 24, 0);
        due("a TURNED one", x.guess(3, 0, NONE, 1), 1);
        holds("a TURNED one, SUMS 0, 0", x, 1, 0, 24);
        due("a READER who does not know", x.guess(4, 0, NONE, 1), 0);
        holds("a READER who does not know", x, 1, 14, 10);
        due("a READER who knows", x.guess(4, 0, 0, 1), 0);
        holds("a READER who knows, SUMS 16, 10", x, 1, 15, 9);
        due("a READER by himself", x.guess(4, 0, 4, 1), 0);
        holds("a READER by himself", x, 1, 15, 9);
        due("one abroad", x.guess(5, 0, NONE, 0), 0);
        holds("one abroad, to the ROW itself", x, 0, 24, 0);
        fill(x, 0, 9, 8);
        due("a TURNED one", x.guess(3, 0, NONE, 1), 0);
        holds("a TURNED one, SUMS 8, 6", x, 1, 14, 10);
        fill(x, 0, 1, 0);
        due("a PARTED one", x.guess(2, 0, NONE, 1), 1);
        holds("a PARTED one, SUMS 2, 6", x, 1, 6, 18);

        x = world("w1000000000w1000000000w1000000000w1000000000w1000000000");
        x.player(0, 0, 1, 4);
        fill(x, 0, 0);
        due("five alike", x.guess(0, 0, NONE, 1), 0);
        holds("what lacks goes to the first", x, 1, 8, 4, 4, 4, 4);

        due("guess(1, 0, NONE, 1)", x.guess(1, 0, NONE, 1), BAD);
        due("guess(0, 6, NONE, 1)", x.guess(0, 6, NONE, 1), BAD);
        due("guess(0, 0, 1, 1)", x.guess(0, 0, 1, 1), BAD);
        due("guess(0, 0, -1, 1)", x.guess(0, 0, -1, 1), BAD);
        due("guess(0, 5, NONE, 6)", x.guess(0, 5, NONE, 6), BAD);
        finds("guess(0, 5, NONE, 1)", x, NOTHING, x.guess(0, 5, NONE, 1));
        x.row(5, 0);
        finds("no PARTS", x, SIZE, x.guess(0, 5, NONE, 1));
        fill(x, 5, 5, 4, 3, 2, 1, 0);
        due("six PARTS", x.guess(0, 5, NONE, 1), 0);
        fill(x, 5, 0, 1, 2, 3, 4, 5, 6);
        finds("seven PARTS", x, SIZE, x.guess(0, 5, NONE, 1));
        fill(x, 5, 0, 10);
        finds("PART 10", x, UNLIKE, x.guess(0, 5, NONE, 1));
        fill(x, 5, -1);
        finds("PART -1", x, UNLIKE, x.guess(0, 5, NONE, 1));
        fill(x, 5, 3, 4, 3);
        finds("PART 3 twice", x, UNLIKE, x.guess(0, 5, NONE, 1));
        fill(x, 5, 34);
        finds("PART 34", x, UNLIKE, x.guess(0, 5, NONE, 1));
        holds("the ROW stays", x, 1, 8, 4, 4, 4, 4);
    }

    private static void step() {
        promise = 18;
        PadRound x = plainTable(2);
        due("step(0, 1, 0, 2)", x.step(0, 1, 0, 2), 14);
        holds("step(0, 1, 0, 2)", x, 2, 14, 10);
        due("step(0, 1, 1, 2)", x.step(0, 1, 1, 2), 20);
        holds("step(0, 1, 1, 2)", x, 2, 4, 20);
        x.player(5, 0, 2, 0);
        due("a READER knows at the TABLE", x.step(0, 2, 0, 2), 15);
        due("step(0, 0, 0, 2)", x.step(0, 0, 0, 2), BAD);
        due("step(0, 3, 0, 2)", x.step(0, 3, 0, 2), BAD);
        due("step(3, 0, 0, 2)", x.step(3, 0, 0, 2), BAD);
        due("step(0, 1, 2, 2)", x.step(0, 1, 2, 2), BAD);
        due("step(0, 1, 0, 6)", x.step(0, 1, 0, 6), BAD);
    }

    private interface OfTable {
        int call(PadRound x, int r);
    }

    /** What every call on a TABLE refuses, in its order. */
    private static void tableRefused(String name, OfTable f) {
        PadRound x = plainTable(4);
        fill(x, 4, 0, 1, 0, 1);
        due(name + " of row 6", f.call(x, 6), BAD);
        due(name + " of row -1", f.call(x, -1), BAD);
        finds(name + " of no row", x, NOTHING, f.call(x, 5));
        fill(x, 5);
        finds(name + " of none", x, SIZE, f.call(x, 5));
        fill(x, 5, 0, 0, 1);
        finds(name + " of three", x, SIZE, f.call(x, 5));
        fill(x, 5, 0, 1, 2, 3, 0, 1, 2, 3, 0, 1);
        finds(name + " of ten", x, SIZE, f.call(x, 5));
        fill(x, 5, 0, 1, 2, 4);
        finds(name + " with no PLAYER", x, UNLIKE, f.call(x, 5));
        fill(x, 5, 0, 1, 2, -1);
        finds(name + " with PLAYER -1", x, UNLIKE, f.call(x, 5));
        fill(x, 5, 0, 1, 2, 1);
        finds(name + " with one twice", x, UNLIKE, f.call(x, 5));
        fill(x, 5, 3, 1, 2, 0);
        due(name + " is right", f.call(x, 5) >= 0 ? 1 : 0, 1);
    }

    private static void comes() {
        promise = 19;
        PadRound x = plainTable(4);
        due("comes(0, 0, 0)", x.comes(0, 0, 0), 1);
        tells("0 to 0: 236 of 576", x, 59, 144);
        due("comes(0, 0, 1)", x.comes(0, 0, 1), 1);
        tells("0 to 1: 340 of 576", x, 85, 144);
        due("comes(0, 1, 0)", x.comes(0, 1, 0), 1);
        tells("1 to 0: 136 of 576", x, 17, 72);
        due("comes(0, 2, 0)", x.comes(0, 2, 0), BAD);
        due("comes(0, 0, 2)", x.comes(0, 0, 2), BAD);
        due("comes(5, 0, -1)", x.comes(5, 0, -1), BAD);
        tells("refused", x, 17, 72);
        x = plainTable(8);
        due("comes(0, 0, 0) by eight", x.comes(0, 0, 0), 1);
        tells("(236 236 + 340 136) of 331776", x, 6371, 20736);
        tableRefused("comes", (y, r) -> y.comes(r, 0, 1));
        x = world("w1000000000w0100000000");
        x.player(0, 0, 1, 0);
        x.player(0, 0, 1, 0);
        fill(x, 0, 1, 0);
        due("never", x.comes(0, 0, 1), 1);
        tells("never", x, 0, 1);
        due("always", x.comes(0, 1, 1), 1);
        tells("always", x, 1, 1);
    }

    private static void most() {
        promise = 20;
        PadRound x = plainTable(4);
        due("most(0)", x.most(0), 1);
        tells("372 against 780 of 576", x, 65, 48);
        tableRefused("most", (y, r) -> y.most(r));
        x = world("w1000000000w0100000000");
        x.player(0, 0, 1, 0);
        x.player(0, 0, 1, 0);
        fill(x, 0, 1, 0);
        due("alike", x.most(0), 0);
        tells("alike", x, 1, 1);
    }

    private static void keeps() {
        promise = 21;
        PadRound x = plainTable(2);
        due("keeps(0, 7, 12)", x.keeps(0, 7, 12), 3);
        due("asked()", x.asked(), 0);
        due("keeps(0, 8, 12)", x.keeps(0, 8, 12), 2);
        due("asked()", x.asked(), 0);
        due("keeps(0, 99, 99)", x.keeps(0, 99, 99), 0);
        due("keeps(0, 1, 99)", x.keeps(0, 1, 99), 3);
        due("keeps(0, 0, 1)", x.keeps(0, 0, 1), BAD);
        due("keeps(0, 1, 100)", x.keeps(0, 1, 100), BAD);
        due("keeps(0, 2, 1)", x.keeps(0, 2, 1), BAD);
        due("keeps(5, -2, -1)", x.keeps(5, -2, -1), BAD);
        tableRefused("keeps", (y, r) -> y.keeps(r, 1, 2));
        x = world("w6200000000w0620000000w2200000000");
        x.player(2, 0, 2, 2);
        x.player(2, 0, 2, 1);
        fill(x, 0, 0, 1);
        // SUMS of [0, 1]: 8 15 4, of [1, 2]: 2 17 2, of [0, 1] again.
        due("keeps(0, 1, 4)", x.keeps(0, 1, 4), 3);
        due("asked()", x.asked(), 2);
        x = world("w1000000000w0100000000w0010000000");
        x.player(0, 0, 1, 0);
        x.player(2, 0, 1, 0);
        fill(x, 0, 0, 1);
        due("1 and 2 have 2 of 24", x.keeps(0, 1, 12), 7);
        due("the first of alike ones", x.asked(), 1);
    }

    private static void was() {
        promise = 22;
        PadRound x = plainTable(4);
        due("was(0, 0, 0)", x.was(0, 0, 0), 1);
        tells("236 of 372", x, 59, 93);
        due("was(0, 1, 0)", x.was(0, 1, 0), 1);
        tells("340 of 780", x, 17, 39);
        due("was(0, 2, 0)", x.was(0, 2, 0), BAD);
        due("was(5, 0, 2)", x.was(5, 0, 2), BAD);
        tableRefused("was", (y, r) -> y.was(r, 0, 1));
        x = world("w1000000000w1000000000");
        x.player(0, 0, 1, 0);
        x.player(4, 0, 1, 0);
        fill(x, 0, 0, 1);
        finds("none comes to WORD 1", x, NOUGHT, x.was(0, 1, 0));
        due("was(0, 0, 1)", x.was(0, 0, 1), 1);
        tells("both came to WORD 0", x, 1, 2);
    }

    private static void off() {
        promise = 23;
        PadRound x = plainTable(4);
        due("off(0, 0, 1, 0)", x.off(0, 0, 1, 0), 1);
        tells("200 of 340", x, 10, 17);
        due("off(0, 0, 1, 1)", x.off(0, 0, 1, 1), 1);
        tells("140 of 340", x, 7, 17);
        due("off(0, 0, 1, 2)", x.off(0, 0, 1, 2), BAD);
        due("off(0, 0, 1, 4)", x.off(0, 0, 1, 4), BAD);
        due("off(0, 0, 1, -1)", x.off(0, 0, 1, -1), BAD);
        due("off(0, 1, 1, 0)", x.off(0, 1, 1, 0), BAD);
        due("off(0, 2, 1, 0)", x.off(0, 2, 1, 0), BAD);
        due("off(0, 1, 2, 0)", x.off(0, 1, 2, 0), BAD);
        due("no ROW, STEP 4", x.off(5, 0, 1, 4), BAD);
        finds("no ROW, no such STEP", x, NOTHING, x.off(5, 0, 1, 3));
        fill(x, 5, 0, 0);
        finds("twice, no such STEP", x, UNLIKE, x.off(5, 0, 1, 3));
        tableRefused("off", (y, r) -> y.off(r, 0, 1, 0));
        x = plainTable(8);
        due("off(0, 0, 1, 3)", x.off(0, 0, 1, 3), 1);
        // 14 14 14 10 of 236 340 + 340 440.
        tells("27440 of 229840", x, 343, 2873);
        x = plainTable(6);
        due("off(0, 0, 1, 0)", x.off(0, 0, 1, 0), 1);
        tells("home again and off again: 4400 of 9160", x, 110, 229);
        due("off(0, 0, 1, 1)", x.off(0, 0, 1, 1), 1);
        tells("2800 of 9160", x, 70, 229);
        due("off(0, 0, 1, 2)", x.off(0, 0, 1, 2), 1);
        tells("1960 of 9160", x, 49, 229);
        x = world("w1000000000w0100000000");
        x.player(0, 0, 1, 0);
        x.player(0, 0, 1, 0);
        fill(x, 0, 0, 1);
        due("no such STEP ahead of NOUGHT", x.off(0, 0, 1, 1), BAD);
        finds("never", x, NOUGHT, x.off(0, 0, 1, 0));
    }

    private static void padsRefused(String name, OfTable f) {
        PadRound x = plainTable(4);
        finds(name + " without PADS", x, NOTHING, f.call(x, 0));
        fill(x, 5, 9);
        finds(name + ", PADS missing, TABLE too small", x, NOTHING, f.call(x, 5));
        fill(x, 4, 0, 1, 0);
        finds(name + ", too few PADS", x, SIZE, f.call(x, 0));
        fill(x, 5, 0, 0, 1, 1);
        finds(name + ", too few PADS, PLAYERS twice", x, SIZE, f.call(x, 5));
        fill(x, 4, 0, 1, 0, 1, 0);
        finds(name + ", too many PADS", x, SIZE, f.call(x, 0));
        fill(x, 4, 0, 1, 2, 0);
        finds(name + ", no WORD", x, UNLIKE, f.call(x, 0));
        fill(x, 4, 0, 1, -1, 0);
        finds(name + ", WORD -1", x, UNLIKE, f.call(x, 0));
        tableRefused(name, f);
    }

    private static void kept() {
        promise = 24;
        PadRound x = plainTable(4);
        fill(x, 1, 0, 1, 0, 1);
        due("kept(0, 1)", x.kept(0, 1), 1);
        tells("236 440 236 440 of 576", x, 169, 72);
        fill(x, 1, 0, 0, 0, 0);
        due("kept(0, 1)", x.kept(0, 1), 0);
        due("kept(0, 6)", x.kept(0, 6), BAD);
        due("kept(6, 5)", x.kept(6, 5), BAD);
        padsRefused("kept", (y, r) -> y.kept(r, 4));
        x = world("w9000000000w0900000000");
        x.player(0, 0, 1, 0);
        x.player(2, 0, 1, 0);
        fill(x, 0, 0, 1);
        due("a ROW as both", x.kept(0, 0), 0);
        tells("all home, and all home", x, 2, 1);
        fill(x, 1, 1, 1);
        due("the FIXED one guesses PAD 0", x.kept(0, 1), 1);
        tells("12 of 24, and all home", x, 3, 2);
    }

    private static void seats() {
        promise = 25;
        PadRound x = world("w9000000000w0900000000");
        x.player(0, 0, 1, 0);
        x.player(2, 0, 1, 0);
        for (int p = 2; p < 8; p++) {
            x.player(0, 0, 1, 0);
        }
        fill(x, 0, 0, 3, 2, 1);
        fill(x, 1, 1, 0, 1, 0);
        // The FIXED one guesses the WORDS 1, unless he sits at place 2.
        due("seats(0, 1, 2)", x.seats(0, 1, 2), 2);
        holds("seats(0, 1, 2)", x, 2, 0, 2, 1, 3);
        tells("all home", x, 4, 1);
        fill(x, 1, 0, 0, 0, 0);
        fill(x, 0, 3, 2, 1, 0);
        due("all alike, to the ROW itself", x.seats(0, 1, 0), 6);
        holds("the first one stays", x, 0, 3, 0, 1, 2);
        fill(x, 0, 5, 4);
        fill(x, 1, 1, 1);
        due("two", x.seats(0, 1, 1), 1);
        holds("two, to the PADS", x, 1, 5, 4);
        fill(x, 0, 0, 2, 3, 1, 5, 4);
        fill(x, 1, 1, 1, 1, 0, 0, 0);
        // At places 1, 3, 5 he guesses the PADS 0, 2, 4: two of WORD 1; at 2, 4 the PADS 1, 3, 5: one.
        due("six", x.seats(0, 1, 2), 48);
        holds("six", x, 2, 0, 2, 1, 3, 4, 5);
        tells("six", x, 11, 2);
        fill(x, 0, 0, 1, 2, 3, 4, 5, 6, 7);
        fill(x, 1, 0, 0, 0, 0, 0, 0, 0, 0);
        due("eight", x.seats(0, 1, 2), SPENT);
        fill(x, 1, 0, 0, 0, 0, 0, 0, 0, 2);
        finds("SPENT last", x, UNLIKE, x.seats(0, 1, 2));
        due("seats(5, 5, 6)", x.seats(5, 5, 6), BAD);
        due("seats(5, 6, 5)", x.seats(5, 6, 5), BAD);
        holds("the ROW stays", x, 2, 0, 2, 1, 3, 4, 5);
        tells("refused", x, 11, 2);
        padsRefused("seats", (y, r) -> y.seats(r, 4, 3));
    }

    private static void parts() {
        promise = 26;
        PadRound x = world(TWO);
        x.player(0, 0, 2, 1);
        due("parts(0, 0, 1)", x.parts(0, 0, 1), 1);
        due("asked()", x.asked(), 24);
        due("PART 0 and one that is nowhere", x.parts(0, 0, 2), 9);
        due("asked()", x.asked(), 24);
        due("parts(0, 0, 6)", x.parts(0, 0, 6), 1 + 8 + 16 + 32 + 64 + 128);
        due("those that are nowhere are his FAVOURITE", x.parts(0, 1, 1), 4);
        x.player(3, 0, 2, 1);
        due("a PARTED one sees the least number", x.parts(1, 1, 2), 4 + 8);
        x.player(4, 0, 2, 1);
        due("a TURNED one sees PART 9 for 0", x.parts(2, 0, 2), 512 + 1);
        due("parts(3, 0, 1)", x.parts(3, 0, 1), BAD);
        due("parts(0, 2, 1)", x.parts(0, 2, 1), BAD);
        due("parts(0, 0, 0)", x.parts(0, 0, 0), BAD);
        due("parts(0, 0, 7)", x.parts(0, 0, 7), BAD);
    }

    private static void few() {
        promise = 27;
        PadRound x = world(HIDDEN);
        x.player(0, 0, 2, 1);
        due("few(0, 0, 10)", x.few(0, 0, 10), 1);
        due("asked()", x.asked(), 1);
        due("few(0, 0, 11)", x.few(0, 0, 11), 2);
        due("asked()", x.asked(), 3);
        due("few(0, 0, 12)", x.few(0, 0, 12), 2);
        due("SUMS 8 5 5: 10 6 6 and 2", x.few(0, 0, 13), NONE);
        due("asked() stays", x.asked(), 3);
        due("his FAVOURITE", x.few(0, 1, 24), 1);
        due("asked()", x.asked(), 4);
        due("few(0, 0, 1)", x.few(0, 0, 1), 1);
        due("asked()", x.asked(), 1);
        due("few(0, 0, 0)", x.few(0, 0, 0), BAD);
        due("few(0, 0, 25)", x.few(0, 0, 25), BAD);
        due("few(0, 3, 1)", x.few(0, 3, 1), BAD);
        due("few(1, 0, 1)", x.few(1, 0, 1), BAD);
        x = world("w1111110000w0000000001");
        x.player(2, 0, 1, 1);
        due("six by nine", x.few(0, 0, 9), 6);
        due("asked()", x.asked(), 63);
        due("seven are too many", x.few(0, 0, 10), NONE);
    }

    private static void soon() {
        promise = 28;
        PadRound x = world(HIDDEN);
        x.player(0, 0, 2, 1);
        x.player(3, 0, 2, 1);
        x.player(0, 0, 2, 0);
        fill(x, 0, 1, 0);
        due("soon(0, 0, 0, 1)", x.soon(0, 0, 0, 1), 2);
        holds("soon(0, 0, 0, 1)", x, 1, 0, 1);
        fill(x, 0, 5, 1, 0);
        due("two are wanted", x.soon(0, 0, 0, 1), 2);
        holds("two are wanted", x, 1, 0, 1, 5);
        due("his FAVOURITE, then PARTS 0, 1: WORD 1 is off between", x.soon(2, 0, 0, 1), 2);
        fill(x, 0, 1, 5);
        due("soon(0, 2, 0, 0)", x.soon(0, 2, 0, 0), 1);
        holds("to the ROW itself", x, 0, 1, 5);
        fill(x, 0, 5, 0);
        due("a PARTED one", x.soon(1, 1, 0, 1), 1);
        holds("a PARTED one", x, 1, 0, 5);
        fill(x, 0, 0, 1);
        due("a PARTED one never", x.soon(1, 0, 0, 1), NONE);
        holds("the ROW stays", x, 1, 0, 5);
        due("a PARTED one by PART 1 first", x.soon(1, 2, 0, 1), 1);
        holds("a PARTED one by PART 1 first", x, 1, 1, 0);
        due("not by all of them", x.soon(0, 1, 0, 1), NONE);
        due("soon(3, 0, 0, 1)", x.soon(3, 0, 0, 1), BAD);
        due("soon(0, 3, 0, 1)", x.soon(0, 3, 0, 1), BAD);
        due("soon(0, 0, 6, 1)", x.soon(0, 0, 6, 1), BAD);
        due("soon(0, 0, 5, 6)", x.soon(0, 0, 5, 6), BAD);
        finds("soon(0, 0, 5, 1)", x, NOTHING, x.soon(0, 0, 5, 1));
        fill(x, 5);
        finds("no PARTS", x, SIZE, x.soon(0, 0, 5, 1));
        fill(x, 5, 1, 1);
        finds("twice", x, UNLIKE, x.soon(0, 0, 5, 1));
    }

    private static void common() {
        promise = 29;
        PadRound x = new PadRound();
        due("common(8, 1)", x.common(8, 1), BAD);
        due("common(0, 0)", x.common(0, 0), BAD);
        due("common(0, 10)", x.common(0, 10), BAD);
        finds("common(7, 1)", x, NOTHING, x.common(7, 1));
        x = world(TWO);
        finds("common(7, 1)", x, NOTHING, x.common(7, 1));
        x = world(TWO, "w1000000000");
        finds("BOX 1 does not count", x, NOTHING, x.common(7, 1));
        x = world(TWO, TWO_ABROAD);
        due("common(0, 2)", x.common(0, 2), 1);
        due("asked()", x.asked(), 2 + 512);
        due("common(0, 3)", x.common(0, 3), 1);
        due("asked()", x.asked(), 0);
        due("common(1, 1)", x.common(1, 1), 4);
        due("asked()", x.asked(), 2 + 8);
        due("common(0, 9)", x.common(0, 9), 0);
        due("common(2, 1)", x.common(2, 1), BAD);
    }

    private static void land() {
        promise = 30;
        PadRound x = new PadRound();
        due("land(6)", x.land(6), BAD);
        finds("land(0)", x, NOTHING, x.land(0));
        x = world(TWO);
        fill(x, 0);
        finds("no BOX 1", x, NOTHING, x.land(0));
        x = world(TWO, "w1000000000");
        fill(x, 0);
        finds("BOX 1 does not count", x, NOTHING, x.land(0));
        x = world(TWO, TWO_ABROAD);
        finds("no ROW", x, NOTHING, x.land(0));
        fill(x, 0);
        finds("no PARTS", x, SIZE, x.land(0));
        fill(x, 0, 0, 0);
        finds("twice", x, UNLIKE, x.land(0));
        fill(x, 0, 5, 6);
        finds("in neither", x, NOUGHT, x.land(0));
        fill(x, 0, 0, 1);
        due("land(0)", x.land(0), 1);
        tells("14 and 6", x, 7, 10);
        fill(x, 0, 9);
        due("land(0)", x.land(0), 1);
        tells("only abroad", x, 0, 1);
    }

    private static void leaf() {
        promise = 31;
        PadRound x = plainTable(2);
        fill(x, 1, 4, 2);
        due("leaf(0, 1, 1)", x.leaf(0, 1, 1), 0);
        due("leaf(2, 1, 1)", x.leaf(2, 1, 1), BAD);
        due("leaf(0, 2, 1)", x.leaf(0, 2, 1), BAD);
        due("leaf(0, 1, 6)", x.leaf(0, 1, 6), BAD);
        for (int e = 1; e < 12; e++) {
            due("leaf " + e, x.leaf(1, 0, 1), e);
        }
        due("a thirteenth", x.leaf(0, 1, 1), FULL);
        finds("FULL last", x, NOTHING, x.leaf(0, 1, 5));
        fill(x, 5);
        finds("FULL last", x, SIZE, x.leaf(0, 1, 5));
        fill(x, 5, 1, 1);
        finds("FULL last", x, UNLIKE, x.leaf(0, 1, 5));
        due("count(4)", x.count(4), 12);
    }

    private static void guessed() {
        promise = 32;
        PadRound x = plainTable(2);
        fill(x, 1, 4, 2);
        due("guessed(0, 1, 1, 1)", x.guessed(0, 1, 1, 1), 0);
        due("guessed(2, 1, 1, 1)", x.guessed(2, 1, 1, 1), BAD);
        due("guessed(0, 6, 1, 1)", x.guessed(0, 6, 1, 1), BAD);
        due("guessed(0, 1, 2, 1)", x.guessed(0, 1, 2, 1), BAD);
        due("guessed(0, 1, -1, 1)", x.guessed(0, 1, -1, 1), BAD);
        due("guessed(0, 1, 1, 2)", x.guessed(0, 1, 1, 2), BAD);
        for (int e = 1; e < 12; e++) {
            due("guessed " + e, x.guessed(0, 1, e % 2 == 0 ? 0 : NONE, 0), e);
        }
        due("a thirteenth", x.guessed(0, 1, 1, 1), FULL);
        finds("FULL last", x, NOTHING, x.guessed(0, 5, 1, 1));
        fill(x, 5, 0, 1, 2, 3, 4, 5, 6);
        finds("FULL last", x, SIZE, x.guessed(0, 5, 1, 1));
        fill(x, 5, 10);
        finds("FULL last", x, UNLIKE, x.guessed(0, 5, 1, 1));
        due("count(5)", x.count(5), 12);
    }

    private static void told() {
        promise = 33;
        PadRound x = plainTable(2);
        fill(x, 1, 4, 2);
        x.leaf(1, 1, 1);
        x.guessed(0, 1, 1, 1);
        x.guessed(1, 1, NONE, 0);
        fill(x, 1, 9);
        int[][] want = {{0, 1, 1, 20, NONE}, {1, 0, 1, 20, 1}, {1, 1, 0, 20, NONE}};
        for (int e = 0; e < 3; e++) {
            for (int what = 0; what < 5; what++) {
                asks("told(" + e + ", " + what + ")", x, want[e][what], x.told(e, what));
            }
        }
        due("told(3, 0)", x.told(3, 0), BAD);
        due("told(-1, 0)", x.told(-1, 0), BAD);
        due("told(0, 5)", x.told(0, 5), BAD);
        due("told(0, -1)", x.told(0, -1), BAD);
    }

    private static void back() {
        promise = 34;
        PadRound x = plainTable(2);
        due("back(0)", x.back(0), 0);
        due("back(1)", x.back(1), BAD);
        due("back(-1)", x.back(-1), BAD);
        fill(x, 1, 4, 2);
        for (int e = 0; e < 5; e++) {
            x.leaf(1, 1, 1);
        }
        due("back(5)", x.back(5), 0);
        due("back(6)", x.back(6), BAD);
        due("back(2)", x.back(2), 3);
        due("count(4)", x.count(4), 2);
        due("leaf", x.leaf(0, 0, 1), 2);
        due("back(0)", x.back(0), 3);
    }

    private static void hand() {
        promise = 35;
        PadRound x = plainTable(2);
        due("hand(2)", x.hand(2), BAD);
        finds("hand(0)", x, NOUGHT, x.hand(0));
        fill(x, 1, 0);
        x.guessed(0, 1, NONE, 0);
        x.leaf(1, 0, 1);
        finds("hand(0)", x, NOUGHT, x.hand(0));
        due("hand(1)", x.hand(1), 1);
        due("asked()", x.asked(), 0);
        fill(x, 1, 1, 0);
        x.leaf(0, 0, 1);
        due("hand(0)", x.hand(0), 0);
        due("asked()", x.asked(), 0);
        fill(x, 1, 5, 6);
        x.leaf(0, 1, 1);
        // [1, 2] is 4 off, [1] is 3; and [0] was 1 off.
        due("as far", x.hand(0), 0);
        due("asked()", x.asked(), 4);
        x.leaf(0, 1, 1);
        due("hand(0)", x.hand(0), 1);
        due("asked()", x.asked(), 7);
    }

    private static void guesser() {
        promise = 36;
        PadRound x = plainTable(2);
        due("guesser(2)", x.guesser(2), BAD);
        finds("guesser(0)", x, NOUGHT, x.guesser(0));
        fill(x, 1, 0, 1);
        x.leaf(0, 0, 1);
        x.guessed(1, 1, NONE, 0);
        finds("guesser(0)", x, NOUGHT, x.guesser(0));
        due("guesser(1)", x.guesser(1), 3);
        tells("14 14 18 24 24 14", x, 2, 9);
        x.guessed(1, 1, 0, 1);
        // Then 10 10 6 0 0 9, as a READER has 15 and 9.
        due("guesser(1)", x.guesser(1), 0);
        tells("140 140 108 0 0 126", x, 70, 257);
        fill(x, 1, 0);
        x.guessed(0, 1, NONE, 1);
        finds("all are 0", x, NOUGHT, x.guesser(0));
        x.back(0);
        for (int e = 0; e < 8; e++) {
            x.guessed(0, 1, NONE, 0);
        }
        due("eight", x.guesser(0), 0);
        tells("24 each", x, 1, 6);
        x.guessed(0, 1, NONE, 1);
        due("nine: SPENT ahead of NOUGHT", x.guesser(0), SPENT);
        finds("none of the other's", x, NOUGHT, x.guesser(1));
    }

    private static void machine() {
        promise = 37;
        PadRound x = plainTable(2);
        due("machine(6)", x.machine(6), BAD);
        finds("machine(5)", x, NOTHING, x.machine(5));
        fill(x, 5);
        finds("no PARTS", x, SIZE, x.machine(5));
        fill(x, 5, 1, 1);
        finds("twice", x, UNLIKE, x.machine(5));
        fill(x, 5, 1, 2);
        finds("no LEAVES", x, NOUGHT, x.machine(5));
        x.guessed(0, 5, NONE, 0);
        finds("no LEAVES of drawings", x, NOUGHT, x.machine(5));
        fill(x, 1, 2, 3);
        x.leaf(0, 1, 1);
        fill(x, 1, 2);
        x.leaf(0, 0, 1);
        fill(x, 1, 1);
        x.leaf(0, 1, 1);
        due("machine(5)", x.machine(5), 0);
        due("asked()", x.asked(), 1);
        fill(x, 5, 3, 2);
        due("in any order", x.machine(5), 1);
        due("asked()", x.asked(), 0);
    }

    private static void held() {
        promise = 38;
        PadRound x = plainTable(2);
        finds("none", x, NOUGHT, x.held());
        fill(x, 1, 1, 2);
        x.leaf(0, 1, 1);
        x.guessed(0, 1, NONE, 1);
        finds("one", x, NOUGHT, x.held());
        fill(x, 1, 1, 3);
        x.leaf(1, 1, 1);
        due("two", x.held(), 2);
        due("asked()", x.asked(), 2);
        fill(x, 1, 1);
        x.leaf(1, 0, 1);
        // Each of the first two is nearest to the third; the third to the first.
        due("three", x.held(), 0);
        due("asked()", x.asked(), 3);
    }

    private static void sign() {
        promise = 39;
        PadRound x = world(HIDDEN);
        x.player(0, 0, 2, 1);
        x.player(0, 0, 2, 1);
        x.player(2, 0, 2, 0);
        due("at first", x.sign(0, 1, 0, 0, 1), 2);
        holds("at first", x, 1, 0, 1);
        due("10 of 24 by PART 0", x.sign(0, 1, 0, 9, 1), 2);
        due("a FIXED one still has it", x.sign(0, 2, 0, 1, 1), 1);
        holds("a FIXED one still has it", x, 1, 0);
        due("one is left", x.sign(0, 2, 0, 9, 1), 1);
        x = world("w5432100000w0000100000");
        x.player(0, 0, 6, 0);
        x.player(0, 0, 6, 0);
        for (int n = 0; n < 10; n++) {
            due("sign after " + n, x.sign(0, 1, 0, n, 1), Math.max(1, 5 - n));
        }
        due("sign(0, 0, ..)", x.sign(0, 0, 0, 0, 1), BAD);
        due("sign(0, 2, ..)", x.sign(0, 2, 0, 0, 1), BAD);
        due("sign, WORD 2", x.sign(0, 1, 2, 0, 1), BAD);
        due("sign, WEEK -1", x.sign(0, 1, 0, -1, 1), BAD);
        due("sign, WEEK 10", x.sign(0, 1, 0, 10, 1), BAD);
        due("sign, row 6", x.sign(0, 1, 0, 0, 6), BAD);
        holds("the ROW stays", x, 1, 0);
        x = world("w4400000000w5000000000");
        x.player(0, 0, 2, 0);
        x.player(5, 0, 2, 0);
        due("a READER has SUMS 8, 9: 11 of 24", x.sign(0, 1, 0, 1, 1), 2);
        x = world("w4300000000w4000000003");
        x.player(0, 0, 2, 0);
        x.player(0, 0, 2, 0);
        due("12 of 24", x.sign(0, 1, 1, 1, 1), 1);
        x = world("w4300000000w5000098000");
        x.player(0, 0, 2, 0);
        x.player(0, 0, 2, 0);
        x.player(5, 0, 2, 0);
        due("a plain one has SUMS 4, 5", x.sign(0, 1, 0, 1, 1), 2);
        due("a READER knows by whom: SUMS 8, 5", x.sign(0, 2, 0, 1, 1), 1);
    }

    private static void stranger() {
        promise = 40;
        PadRound x = world(HIDDEN);
        x.player(0, 0, 2, 1);
        x.player(2, 0, 2, 0);
        x.player(0, 0, 2, 1);
        x.player(2, 0, 2, 0);
        x.player(4, 0, 2, 2);
        due("week 1", x.stranger(0, 1, 0, 2), 1);
        due("asked()", x.asked(), 1);
        due("a FIXED one reads on", x.stranger(0, 1, 0, 3), NONE);
        due("asked() stays", x.asked(), 1);
        due("a TURNED one never reads it", x.stranger(0, 1, 0, 4), 0);
        due("asked()", x.asked(), 2);
        due("it stays as it is", x.stranger(0, 4, 0, 2), NONE);
        due("p is q", x.stranger(0, 0, 0, 2), BAD);
        due("p is the stranger", x.stranger(0, 1, 0, 0), BAD);
        due("q is the stranger", x.stranger(0, 1, 0, 1), BAD);
        due("WORD 3", x.stranger(0, 1, 3, 2), BAD);
        due("no PLAYER", x.stranger(5, 1, 0, 2), BAD);
        due("no PLAYER", x.stranger(0, 5, 0, 2), BAD);
        due("no PLAYER", x.stranger(0, 1, 0, 5), BAD);
    }

    private static void image() {
        promise = 41;
        PadRound x = world(TWO, TWO_ABROAD);
        due("image(6)", x.image(6), BAD);
        due("image(0)", x.image(0), 0);
        holds("none", x, 0);
        x.player(5, 1, 6, 1);
        x.player(0, 0, 1, 0);
        due("image(0)", x.image(0), 2);
        holds("two", x, 0, 5161, 10);
    }

    private static void onRefuses(PadRound x, String what, int v) {
        fill(x, 1, 10, v);
        finds(what, x, UNLIKE, x.on(1));
    }

    private static void on() {
        promise = 42;
        PadRound x = world(TWO);
        due("on(6)", x.on(6), BAD);
        finds("on(1)", x, NOTHING, x.on(1));
        x.player(0, 0, 1, 0);
        fill(x, 2, 1);
        x.leaf(0, 0, 2);
        fill(x, 1, 0, 0, 0, 0, 0, 0, 0, 0, 0);
        finds("nine", x, SIZE, x.on(1));
        onRefuses(x, "KIND 6", 6010);
        onRefuses(x, "LAND 1 has no BOX", 110);
        onRefuses(x, "LAND 2", 210);
        onRefuses(x, "no PARTS", 0);
        onRefuses(x, "seven PARTS", 70);
        onRefuses(x, "no such WORD", 12);
        onRefuses(x, "WORD 9", 19);
        onRefuses(x, "below 0", -10);
        onRefuses(x, "the lowest", LOW);
        onRefuses(x, "the highest", HIGH);
        due("PLAYERS stay", x.count(2), 1);
        due("LEAVES stay", x.count(4), 1);
        fill(x, 1, 5061, 1010, 4020);
        due("on(1)", x.on(1), 3);
        due("LEAVES go", x.count(4), 0);
        asks("about(0, 0)", x, 5, x.about(0, 0));
        asks("about(0, 2)", x, 6, x.about(0, 2));
        asks("about(0, 3)", x, 1, x.about(0, 3));
        due("SLOPPY ones", x.count(3), 2);
        due("draws(2, 0, 3)", x.draws(2, 0, 3), 1);
        fill(x, 1, 10, 10, 10, 10, 10, 10, 10, 10);
        due("eight", x.on(1), 8);
        fill(x, 1);
        due("none", x.on(1), 0);
        due("count(2)", x.count(2), 0);
        x = new PadRound();
        x.row(0, 0);
        due("none, without a BOX", x.on(0), 0);
        x = world(TWO, TWO_ABROAD);
        fill(x, 0, 121);
        due("LAND 1", x.on(0), 1);
        asks("about(0, 1)", x, 1, x.about(0, 1));
        due("what it draws is of its LAND", x.draws(0, 1, 2), 2);
        holds("what it draws is of its LAND", x, 2, 2, 3);
    }

    private static void asked() {
        promise = 43;
        PadRound x = new PadRound();
        due("asked()", x.asked(), 0);
        x.row(0, 2);
        x.lay(0, 0, 7);
        x.at(0, 0);
        due("asked()", x.asked(), 7);
        x.at(0, 2);
        x.put(0, 0, 1);
        x.count(6);
        x.digest();
        due("asked() stays", x.asked(), 7);
        x.about(0, 0);
        due("asked() stays", x.asked(), 7);
    }

    private static void upperLower() {
        promise = 44;
        PadRound x = plainTable(4);
        due("upper()", x.upper(), 0);
        x.comes(0, 0, 0);
        due("upper()", x.upper(), 59);
        x.comes(5, 0, 0);
        x.hand(0);
        due("upper() stays", x.upper(), 59);
        promise = 45;
        due("lower() stays", x.lower(), 144);
        due("lower()", new PadRound().lower(), 1);
    }

    private static void count() {
        promise = 46;
        PadRound x = new PadRound();
        due("count(8)", x.count(8), BAD);
        due("count(-1)", x.count(-1), BAD);
        write(x, 1, TWO);
        x.box(1, 1);
        due("BOX 1 alone: WORDS", x.count(0), 0);
        due("BOX 1 alone does not count", x.count(1), 0);
        write(x, 0, TWO);
        x.box(0, 0);
        due("WORDS", x.count(0), 2);
        due("BOXES", x.count(1), 2);
        x.player(0, 0, 1, 0);
        x.player(1, 0, 1, 0);
        x.player(4, 1, 1, 0);
        due("PLAYERS", x.count(2), 3);
        due("SLOPPY ones", x.count(3), 2);
        fill(x, 0, 1);
        fill(x, 4, 1);
        x.leaf(0, 0, 0);
        x.guessed(0, 0, NONE, 0);
        x.guessed(0, 0, 1, 0);
        due("LEAVES", x.count(4), 3);
        due("guesses", x.count(5), 2);
        due("ROWS", x.count(6), 2);
        due("TEXTS", x.count(7), 2);
    }

    private static void findings() {
        promise = 47;
        PadRound x = new PadRound();
        due("finding()", x.finding(), 0);
        x.at(0, 0);
        x.at(0, 0);
        x.row(0, -1);
        due("finding()", x.finding(), SIZE);
        x.row(0, 0);
        x.at(0, 0);
        due("finding()", x.finding(), BEYOND);
        x.mean(0);
        x.row(6, 0);
        due("finding()", x.finding(), NOUGHT);
        promise = 48;
        int[] want = {2, 1, 0, 1, 1};
        for (int f = 1; f <= 5; f++) {
            due("findings(" + f + ")", x.findings(f), want[f - 1]);
        }
        due("findings(0)", x.findings(0), BAD);
        due("findings(6)", x.findings(6), BAD);
    }

    private static long digestOf(int... v) {
        long h = 17;
        for (int each : v) {
            h = 31 * h + each;
        }
        return h;
    }

    private static void digest() {
        promise = 49;
        PadRound x = new PadRound();
        due("new", x.digest(), digestOf(0, 0, 0, 0, 0, 0, 0, 0, -1, -1, -1, -1, -1, -1, -1, -1, -1, -1, -1, -1));
        write(x, 3, "w1234567890w9000000000");
        x.box(1, 3);
        write(x, 3, "w0000000012");
        x.box(0, 3);
        x.text(3, 1);
        x.put(3, 0, -1);
        x.player(4, 0, 3, 0);
        x.row(2, 1);
        x.lay(2, 0, 5);
        x.leaf(0, 0, 2);
        x.guessed(0, 2, 0, 0);
        due("digest()", x.digest(), digestOf(1, 1, 1, 1, 2, 1, 1, 1,
                1, 0, 0, 0, 0, 0, 0, 0, 0, 1, 2,
                2, 1, 2, 3, 4, 5, 6, 7, 8, 9, 0, 9, 0, 0, 0, 0, 0, 0, 0, 0, 0,
                4, 0, 3, 0,
                0, 0, 0, 32, -9, 1, 0, 0, 32, 0,
                -1, -1, 1, 5, -1, -1, -1,
                -1, -1, -1, 1, -1));
        due("asked() stays", x.asked(), 0);
    }
}
