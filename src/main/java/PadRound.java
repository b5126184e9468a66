/**
 * Drawn, guessed, drawn: players about a table with pads. The numbered promises of the
 * document say what each call answers; nothing here throws, and nothing is made after
 * the constructor, so that a long run of calls stays in a small room.
 */
public final class PadRound {
    public static final int BAD = -1, FULL = -2, FINDING = -3, STATE = -4, SPENT = -6, NONE = -9;

    private static final int NOTHING = 1, BEYOND = 2, UNLIKE = 3, NOUGHT = 4, SIZE = 5;
    private static final int SLOPPY = 1, FIXED = 2, PARTED = 3, TURNED = 4, READER = 5, KINDS = 6;
    private static final int ROWS = 6, ROW_PLACES = 40, TEXTS = 4, TEXT_BYTES = 120;
    private static final int LANDS = 2, WORDS = 8, PARTS = 10, MOST_DRAWN = 6;
    private static final int PLAYERS = 8, LEAVES = 12, SHARES = 24, PART_SETS = 1 << PARTS;
    private static final int BLANK = 32, LETTER = 119, FIRST_FIGURE = 48, LAST_FIGURE = 57;
    private static final int MOST_STEPS = PLAYERS / 2, MOST_SEATED = 6, MOST_GUESSES = 8;
    private static final int MOST_ORDERS = 720, WEEKS = 9, SIGN_SHARE = 12;

    private final Sheet[] rows = new Sheet[ROWS];
    private final Sheet[] texts = new Sheet[TEXTS];
    private final Box[] boxes = new Box[LANDS];
    private final Player[] players = new Player[PLAYERS];
    private final Leaf[] leaves = new Leaf[LEAVES];
    private final Answers answers = new Answers();
    private final Drawing drawing = new Drawing();
    private final Shares shares = new Shares();
    private final Round round = new Round();
    private final Watch watch = new Watch();
    // Stands in for a PLAYER of another KIND, so that the true one is never changed.
    private final Player standIn;
    private int playerCount;
    private int leafCount;

    public PadRound() {
        for (int r = 0; r < ROWS; r++) {
            rows[r] = new Sheet(ROW_PLACES);
        }
        for (int t = 0; t < TEXTS; t++) {
            texts[t] = new Sheet(TEXT_BYTES);
        }
        for (int land = 0; land < LANDS; land++) {
            boxes[land] = new Box();
        }
        for (int p = 0; p < PLAYERS; p++) {
            players[p] = new Player(boxes[0]);
        }
        for (int e = 0; e < LEAVES; e++) {
            leaves[e] = new Leaf();
        }
        standIn = new Player(boxes[0]);
    }

    // ---- 1 rows, texts, boxes, players

    public int row(int r, int n) {
        if (!isRow(r) || n > ROW_PLACES) {
            return BAD;
        }
        if (n < 0) {
            return answers.found(SIZE);
        }
        rows[r].renew(n, 0);
        return n;
    }

    public int lay(int r, int i, int v) {
        if (!isRow(r)) {
            return BAD;
        }
        int fault = rows[r].placeFault(i);
        if (fault != 0) {
            return answers.found(fault);
        }
        int before = rows[r].get(i);
        rows[r].set(i, v);
        return answers.ask(before);
    }

    public int at(int r, int i) {
        if (!isRow(r)) {
            return BAD;
        }
        int fault = rows[r].placeFault(i);
        return fault != 0 ? answers.found(fault) : answers.ask(rows[r].get(i));
    }

    public int tear(int r) {
        if (!isRow(r)) {
            return BAD;
        }
        if (rows[r].isMissing()) {
            return answers.found(NOTHING);
        }
        rows[r].remove();
        return 1;
    }

    public int copy(int r, int i, int to, int j, int n) {
        if (!isRow(r) || !isRow(to)) {
            return BAD;
        }
        if (n < 0) {
            return answers.found(SIZE);
        }
        if (rows[r].isMissing() || rows[to].isMissing()) {
            return answers.found(NOTHING);
        }
        if (!rows[r].hasRange(i, n) || !rows[to].hasRange(j, n)) {
            return answers.found(BEYOND);
        }
        System.arraycopy(rows[r].places, i, rows[to].places, j, n);
        return 1;
    }

    public int mean(int r) {
        if (!isRow(r)) {
            return BAD;
        }
        if (rows[r].isMissing()) {
            return answers.found(NOTHING);
        }
        int size = rows[r].size;
        if (size == 0) {
            return answers.found(NOUGHT);
        }
        return answers.ask((int) (rows[r].total() / size));
    }

    public int text(int t, int n) {
        if (!isText(t) || n > TEXT_BYTES) {
            return BAD;
        }
        if (n < 0) {
            return answers.found(SIZE);
        }
        texts[t].renew(n, BLANK);
        return n;
    }

    public int put(int t, int i, int v) {
        if (!isText(t)) {
            return BAD;
        }
        int fault = texts[t].placeFault(i);
        if (fault != 0) {
            return answers.found(fault);
        }
        int before = texts[t].get(i);
        texts[t].set(i, (byte) v);
        return before + 1000;
    }

    public int fault(int t) {
        if (!isText(t)) {
            return BAD;
        }
        return texts[t].isMissing() ? answers.found(NOTHING) : texts[t].boxFault();
    }

    public int box(int land, int t) {
        if (!isLand(land) || !isText(t)) {
            return BAD;
        }
        if (texts[t].isMissing()) {
            return answers.found(NOTHING);
        }
        if (texts[t].boxFault() != NONE) {
            return STATE;
        }
        boxes[land].read(texts[t]);
        playerCount = 0;
        leafCount = 0;
        return boxes[land].words;
    }

    public int usual(int land, int word, int part) {
        if (!isLand(land) || !isEverWord(word) || part < 0 || part >= PARTS) {
            return BAD;
        }
        if (!boxCounts(land)) {
            return answers.found(NOTHING);
        }
        return isWord(word) ? boxes[land].usualOf(word, part) : BAD;
    }

    public int player(int kind, int land, int parts, int favourite) {
        boolean asTold = kind >= 0 && kind < KINDS && isLand(land) && parts >= 1 && parts <= MOST_DRAWN;
        if (!asTold || !isEverWord(favourite)) {
            return BAD;
        }
        if (!boxCounts(land)) {
            return answers.found(NOTHING);
        }
        if (!isWord(favourite)) {
            return BAD;
        }
        if (playerCount >= PLAYERS) {
            return FULL;
        }
        playerCount++;
        seatPlayer(playerCount - 1, kind, land, parts, favourite);
        return playerCount - 1;
    }

    public int about(int p, int what) {
        if (!isPlayer(p) || what < 0 || what > 3) {
            return BAD;
        }
        return answers.ask(players[p].tells(what));
    }

    public int mark(int p, int kind) {
        if (!isPlayer(p) || kind <= 0 || kind >= KINDS) {
            return BAD;
        }
        if (!players[p].is(kind)) {
            return answers.found(UNLIKE);
        }
        switch (kind) {
            case SLOPPY:
                drawing.drawBy(players[p], 0);
                return drawing.size;
            case FIXED:
                guessFirstPart(players[p]);
                return shares.get(players[p].favourite);
            case PARTED:
                return players[p].many;
            case TURNED:
                guessFirstPart(players[p]);
                return shares.greatest;
            default:
                return handsRead(players[p]);
        }
    }

    public int draws(int p, int word, int r) {
        if (!isPlayer(p) || !isWord(word) || !isRow(r)) {
            return BAD;
        }
        drawing.drawBy(players[p], word);
        rows[r].take(drawing.places, drawing.size);
        return drawing.size;
    }

    public int guess(int p, int r, int by, int to) {
        if (!isPlayer(p) || !isRow(r) || !isDrawer(by) || !isRow(to)) {
            return BAD;
        }
        int fault = rows[r].drawnFault();
        if (fault != 0) {
            return answers.found(fault);
        }
        drawing.take(rows[r]);
        shares.reckon(players[p], drawing, drawer(by));
        rows[to].take(shares.cut, shares.words);
        return shares.greatest;
    }

    // ---- 2 rounds

    public int step(int p, int q, int word, int r) {
        if (!isPlayer(p) || !isPlayer(q) || p == q || !isWord(word) || !isRow(r)) {
            return BAD;
        }
        drawing.drawBy(players[p], word);
        shares.reckon(players[q], drawing, players[p]);
        rows[r].take(shares.cut, shares.words);
        return shares.get(word);
    }

    public int comes(int r, int word, int other) {
        if (!isRow(r) || !isWord(word) || !isWord(other)) {
            return BAD;
        }
        int fault = tableFault(r);
        if (fault != 0) {
            return answers.found(fault);
        }
        seatTable(r);
        return answers.tell(round.reach(0, word, other), round.whole());
    }

    public int most(int r) {
        if (!isRow(r)) {
            return BAD;
        }
        int fault = tableFault(r);
        if (fault != 0) {
            return answers.found(fault);
        }
        seatTable(r);
        round.beginWithAll();
        round.passFrom(0);
        int most = 0;
        for (int w = 1; w < round.words; w++) {
            if (round.odds[w] > round.odds[most]) {
                most = w;
            }
        }
        answers.tell(round.odds[most], round.whole());
        return most;
    }

    public int keeps(int r, int a, int b) {
        if (!isRow(r) || a < 1 || b > 99 || a > b) {
            return BAD;
        }
        int fault = tableFault(r);
        if (fault != 0) {
            return answers.found(fault);
        }
        seatTable(r);
        int bits = 0;
        int least = 0;
        long leastOdds = round.whole();
        for (int w = 0; w < round.words; w++) {
            long home = round.reach(0, w, w);
            if (home * b >= a * round.whole()) {
                bits |= 1 << w;
            }
            if (home < leastOdds) {
                leastOdds = home;
                least = w;
            }
        }
        answers.ask(least);
        return bits;
    }

    public int was(int r, int last, int word) {
        if (!isRow(r) || !isWord(last) || !isWord(word)) {
            return BAD;
        }
        int fault = tableFault(r);
        if (fault != 0) {
            return answers.found(fault);
        }
        seatTable(r);
        long all = 0;
        for (int w = 0; w < round.words; w++) {
            all += round.reach(0, w, last);
        }
        if (all == 0) {
            return answers.found(NOUGHT);
        }
        return answers.tell(round.reach(0, word, last), all);
    }

    public int off(int r, int word, int last, int k) {
        if (!isRow(r) || !isWord(word) || !isWord(last) || word == last || k < 0 || k >= MOST_STEPS) {
            return BAD;
        }
        int fault = tableFault(r);
        if (fault != 0) {
            return answers.found(fault);
        }
        if (k >= rows[r].size / 2) {
            return BAD;
        }
        seatTable(r);
        long all = round.reach(0, word, last);
        if (all == 0) {
            return answers.found(NOUGHT);
        }
        return answers.tell(round.reachOffAt(word, last, k), all);
    }

    public int kept(int r, int pads) {
        if (!isRow(r) || !isRow(pads)) {
            return BAD;
        }
        int fault = padsFault(r, pads);
        if (fault != 0) {
            return answers.found(fault);
        }
        seatTable(r);
        long sum = 0;
        long bestOdds = -1;
        int best = 0;
        for (int k = 0; k < round.size; k++) {
            long home = round.reach(k, rows[pads].get(k), rows[pads].get(k));
            sum += home;
            if (home > bestOdds) {
                bestOdds = home;
                best = k;
            }
        }
        answers.tell(sum, round.whole());
        return best;
    }

    public int seats(int r, int pads, int to) {
        if (!isRow(r) || !isRow(pads) || !isRow(to)) {
            return BAD;
        }
        int fault = padsFault(r, pads);
        if (fault != 0) {
            return answers.found(fault);
        }
        if (rows[r].size > MOST_SEATED) {
            return SPENT;
        }
        seatTable(r);
        learnAllSteps();
        int good = round.seatBest(rows[pads]);
        answers.tell(round.bestKept, round.whole());
        rows[to].take(round.best, round.size);
        return good;
    }

    // ---- 3 what to draw, lands

    public int parts(int p, int word, int n) {
        if (!isPlayer(p) || !isWord(word) || n < 1 || n > MOST_DRAWN) {
            return BAD;
        }
        int best = 0;
        int bestShare = -1;
        for (int set = 1; set < PART_SETS; set++) {
            if (Integer.bitCount(set) != n) {
                continue;
            }
            int share = shareBySet(players[p], set, word);
            if (share > bestShare) {
                bestShare = share;
                best = set;
            }
        }
        answers.ask(bestShare);
        return best;
    }

    public int few(int p, int word, int s) {
        if (!isPlayer(p) || !isWord(word) || s < 1 || s > SHARES) {
            return BAD;
        }
        for (int n = 1; n <= MOST_DRAWN; n++) {
            for (int set = 1; set < PART_SETS; set++) {
                if (Integer.bitCount(set) == n && shareBySet(players[p], set, word) >= s) {
                    answers.ask(set);
                    return n;
                }
            }
        }
        return NONE;
    }

    public int soon(int p, int word, int r, int to) {
        if (!isPlayer(p) || !isWord(word) || !isRow(r) || !isRow(to)) {
            return BAD;
        }
        int fault = rows[r].drawnFault();
        if (fault != 0) {
            return answers.found(fault);
        }
        watch.begin(rows[r].partSet(), players[p].kind == PARTED);
        for (int places = 1; places < 1 << watch.size; places++) {
            watch.partsAt(places, drawing);
            shares.reckon(players[p], drawing, null);
            watch.learn(places, shares.greatest == word);
        }
        int k = watch.soonest();
        if (k == NONE) {
            return NONE;
        }
        rows[to].take(watch.best, watch.size);
        return k;
    }

    public int common(int word, int v) {
        if (!isEverWord(word) || v < 1 || v > 9) {
            return BAD;
        }
        if (!boxCounts(0) || !boxCounts(1)) {
            return answers.found(NOTHING);
        }
        if (!isWord(word)) {
            return BAD;
        }
        int here = boxes[0].usualSet(word, v);
        int there = boxes[1].usualSet(word, v);
        answers.ask(here ^ there);
        return here & there;
    }

    public int land(int r) {
        if (!isRow(r)) {
            return BAD;
        }
        if (rows[r].isMissing() || !boxCounts(0) || !boxCounts(1)) {
            return answers.found(NOTHING);
        }
        int fault = rows[r].drawnFault();
        if (fault != 0) {
            return answers.found(fault);
        }
        drawing.take(rows[r]);
        int here = boxes[0].usualInAll(drawing);
        int both = here + boxes[1].usualInAll(drawing);
        return both == 0 ? answers.found(NOUGHT) : answers.tell(here, both);
    }

    // ---- 4 leaves, kinds, machines, signs

    public int leaf(int p, int word, int r) {
        if (!isPlayer(p) || !isWord(word) || !isRow(r)) {
            return BAD;
        }
        return addLeaf(false, p, word, r, NONE);
    }

    public int guessed(int p, int r, int by, int word) {
        if (!isPlayer(p) || !isRow(r) || !isDrawer(by) || !isWord(word)) {
            return BAD;
        }
        return addLeaf(true, p, word, r, by);
    }

    public int told(int e, int what) {
        if (e < 0 || e >= leafCount || what < 0 || what > 4) {
            return BAD;
        }
        return answers.ask(leaves[e].tells(what));
    }

    public int back(int n) {
        if (n < 0 || n > leafCount) {
            return BAD;
        }
        int gone = leafCount - n;
        leafCount = n;
        return gone;
    }

    public int hand(int p) {
        if (!isPlayer(p)) {
            return BAD;
        }
        if (leavesOf(p, false) == 0) {
            return answers.found(NOUGHT);
        }
        int best = 0;
        int least = handOff(p, 0);
        for (int kind = 1; kind < KINDS; kind++) {
            int far = handOff(p, kind);
            if (far < least) {
                least = far;
                best = kind;
            }
        }
        answers.ask(least);
        return best;
    }

    public int guesser(int p) {
        if (!isPlayer(p)) {
            return BAD;
        }
        int guesses = leavesOf(p, true);
        if (guesses > MOST_GUESSES) {
            return SPENT;
        }
        if (guesses == 0) {
            return answers.found(NOUGHT);
        }
        int best = 0;
        long greatest = 0;
        long all = 0;
        for (int kind = 0; kind < KINDS; kind++) {
            long likelihood = likelihood(p, kind);
            all += likelihood;
            if (likelihood > greatest) {
                greatest = likelihood;
                best = kind;
            }
        }
        if (all == 0) {
            return answers.found(NOUGHT);
        }
        answers.tell(greatest, all);
        return best;
    }

    public int machine(int r) {
        if (!isRow(r)) {
            return BAD;
        }
        int fault = rows[r].drawnFault();
        if (fault != 0) {
            return answers.found(fault);
        }
        int set = rows[r].partSet();
        int nearest = nearestLeaf(set, NONE);
        if (nearest == NONE) {
            return answers.found(NOUGHT);
        }
        answers.ask(leaves[nearest].unlike(set));
        return leaves[nearest].word;
    }

    public int held() {
        int drawings = leafCount - guessLeaves();
        if (drawings < 2) {
            return answers.found(NOUGHT);
        }
        int right = 0;
        for (int e = 0; e < leafCount; e++) {
            if (leaves[e].isGuess) {
                continue;
            }
            int nearest = nearestLeaf(leaves[e].set, e);
            if (nearest != NONE && leaves[nearest].word == leaves[e].word) {
                right++;
            }
        }
        answers.ask(drawings);
        return right;
    }

    public int sign(int p, int q, int word, int n, int r) {
        if (!isPlayer(p) || !isPlayer(q) || p == q || !isWord(word)) {
            return BAD;
        }
        if (n < 0 || n > WEEKS || !isRow(r)) {
            return BAD;
        }
        drawing.drawBy(players[p], word);
        for (int week = 0; week < n; week++) {
            shortenSign(p, q, word);
        }
        rows[r].take(drawing.places, drawing.size);
        return drawing.size;
    }

    public int stranger(int p, int q, int word, int other) {
        if (!isPlayer(p) || !isPlayer(q) || !isPlayer(other) || !isWord(word)) {
            return BAD;
        }
        if (p == q || p == other || q == other) {
            return BAD;
        }
        drawing.drawBy(players[p], word);
        for (int week = 0; week <= WEEKS; week++) {
            shares.reckon(players[other], drawing, null);
            if (shares.greatest != word) {
                answers.ask(shares.greatest);
                return week;
            }
            shortenSign(p, q, word);
        }
        return NONE;
    }

    // ---- 5 images, what is told

    public int image(int r) {
        if (!isRow(r)) {
            return BAD;
        }
        rows[r].renew(playerCount, 0);
        for (int p = 0; p < playerCount; p++) {
            rows[r].set(p, players[p].asNumber());
        }
        return playerCount;
    }

    public int on(int r) {
        if (!isRow(r)) {
            return BAD;
        }
        int fault = imageFault(rows[r]);
        if (fault != 0) {
            return answers.found(fault);
        }
        playerCount = Math.min(rows[r].size, PLAYERS);
        leafCount = 0;
        for (int p = 0; p < playerCount; p++) {
            int v = rows[r].get(p);
            seatPlayer(p, v / 1000, v / 100 % 10, v / 10 % 10, v % 10);
        }
        return playerCount;
    }

    public int asked() {
        return answers.asked;
    }

    public long upper() {
        return answers.upper;
    }

    public long lower() {
        return answers.lower;
    }

    public int count(int what) {
        switch (what) {
            case 0:
                return boxes[0].words;
            case 1:
                return (boxCounts(0) ? 1 : 0) + (boxCounts(1) ? 1 : 0);
            case 2:
                return playerCount;
            case 3:
                return sloppyPlayers();
            case 4:
                return leafCount;
            case 5:
                return guessLeaves();
            case 6:
                return sheetsThere(rows);
            case 7:
                return sheetsThere(texts);
            default:
                return BAD;
        }
    }

    public int finding() {
        return answers.finding;
    }

    public int findings(int f) {
        return f >= NOTHING && f <= SIZE ? answers.findings[f] : BAD;
    }

    public long digest() {
        long h = 17;
        for (int what = 0; what < 8; what++) {
            h = 31 * h + count(what);
        }
        for (int b = 0; b < LANDS; b++) {
            h = boxes[b].digestOn(h);
        }
        for (int p = 0; p < playerCount; p++) {
            for (int what = 0; what < 4; what++) {
                h = 31 * h + players[p].tells(what);
            }
        }
        for (int e = 0; e < leafCount; e++) {
            for (int what = 0; what < 5; what++) {
                h = 31 * h + leaves[e].tells(what);
            }
        }
        for (int r = 0; r < ROWS; r++) {
            h = rows[r].digestOn(h);
        }
        for (int t = 0; t < TEXTS; t++) {
            h = texts[t].digestOn(h);
        }
        return h;
    }

    // ---- what a number may be

    private static boolean isRow(int r) {
        return r >= 0 && r < ROWS;
    }

    private static boolean isText(int t) {
        return t >= 0 && t < TEXTS;
    }

    private static boolean isLand(int land) {
        return land >= 0 && land < LANDS;
    }

    /** Some calls look at their numbers before they look for a BOX. */
    private static boolean isEverWord(int word) {
        return word >= 0 && word < WORDS;
    }

    private boolean isWord(int word) {
        return word >= 0 && word < boxes[0].words;
    }

    private boolean isPlayer(int p) {
        return p >= 0 && p < playerCount;
    }

    private boolean isDrawer(int by) {
        return by == NONE || isPlayer(by);
    }

    private Player drawer(int by) {
        return isPlayer(by) ? players[by] : null;
    }

    private boolean boxCounts(int land) {
        return isLand(land) && boxes[land].words > 0 && boxes[land].words == boxes[0].words;
    }

    /** The FINDING for which a ROW is no TABLE, or 0. */
    private int tableFault(int r) {
        Sheet table = rows[r];
        if (table.isMissing()) {
            return NOTHING;
        }
        if (table.size < 2 || table.size > PLAYERS || table.size % 2 != 0) {
            return SIZE;
        }
        return table.isUnlikeBelow(playerCount) ? 0 : UNLIKE;
    }

    /** The FINDING for which two ROWS are no TABLE with its PADS, or 0. */
    private int padsFault(int r, int pads) {
        if (rows[pads].isMissing()) {
            return NOTHING;
        }
        int fault = tableFault(r);
        if (fault == NOTHING || fault == SIZE) {
            return fault;
        }
        if (rows[pads].size != rows[r].size) {
            return SIZE;
        }
        for (int k = 0; k < rows[pads].size; k++) {
            if (!isWord(rows[pads].get(k))) {
                return UNLIKE;
            }
        }
        return fault;
    }

    /** The FINDING for which a ROW is no image of PLAYERS, or 0. */
    private int imageFault(Sheet image) {
        if (image.isMissing()) {
            return NOTHING;
        }
        if (image.size > PLAYERS) {
            return SIZE;
        }
        for (int p = 0; p < image.size; p++) {
            int v = image.get(p);
            int many = v / 10 % 10;
            boolean taken = v >= 0 && v / 1000 < KINDS && boxCounts(v / 100 % 10)
                    && many >= 1 && many <= MOST_DRAWN && isWord(v % 10);
            if (!taken) {
                return UNLIKE;
            }
        }
        return 0;
    }

    // ---- what several calls do

    /** A BOX never changes under a PLAYER, so what he draws is looked up once, for READERS. */
    private void seatPlayer(int p, int kind, int land, int many, int favourite) {
        if (!isPlayer(p) || !isLand(land)) {
            return;
        }
        players[p].become(kind, land, many, favourite, boxes[land]);
        for (int w = 0; w < WORDS; w++) {
            drawing.drawBy(players[p], w);
            players[p].drawnSets[w] = drawing.set();
        }
    }

    private void guessFirstPart(Player p) {
        drawing.takeSet(1);
        shares.reckon(p, drawing, null);
    }

    private int handsRead(Player reader) {
        int read = 0;
        for (int p = 0; p < playerCount; p++) {
            drawing.drawBy(players[p], 0);
            shares.reckon(reader, drawing, players[p]);
            int known = shares.get(0);
            shares.reckon(reader, drawing, null);
            if (known > shares.get(0)) {
                read++;
            }
        }
        return read;
    }

    private int shareBySet(Player p, int set, int word) {
        drawing.takeSet(set);
        shares.reckon(p, drawing, null);
        return shares.get(word);
    }

    /** Seats a TABLE and learns the STEPS that PADS can take about it as it is. */
    private void seatTable(int r) {
        round.seat(rows[r], boxes[0].words);
        for (int place = 0; place < round.size; place++) {
            learnStep(round.order[place], round.order[(place + 1) % round.size]);
        }
    }

    /** Other orders of seats take STEPS between any two. */
    private void learnAllSteps() {
        for (int i = 0; i < round.size; i++) {
            for (int j = 0; j < round.size; j++) {
                if (i != j) {
                    learnStep(round.order[i], round.order[j]);
                }
            }
        }
    }

    private void learnStep(int p, int q) {
        if (!isPlayer(p) || !isPlayer(q)) {
            return;
        }
        for (int w = 0; w < round.words; w++) {
            drawing.drawBy(players[p], w);
            shares.reckon(players[q], drawing, players[p]);
            round.learn(p, q, w, shares);
        }
    }

    private int addLeaf(boolean isGuess, int p, int word, int r, int by) {
        int fault = rows[r].drawnFault();
        if (fault != 0) {
            return answers.found(fault);
        }
        if (leafCount >= LEAVES) {
            return FULL;
        }
        leaves[leafCount].write(isGuess, p, word, rows[r], by);
        leafCount++;
        return leafCount - 1;
    }

    private int leavesOf(int p, boolean guesses) {
        int n = 0;
        for (int e = 0; e < leafCount; e++) {
            if (leaves[e].isOf(p, guesses)) {
                n++;
            }
        }
        return n;
    }

    private int guessLeaves() {
        int n = 0;
        for (int e = 0; e < leafCount; e++) {
            if (leaves[e].isGuess) {
                n++;
            }
        }
        return n;
    }

    private int handOff(int p, int kind) {
        standIn.becomeLike(players[p], kind);
        int far = 0;
        for (int e = 0; e < leafCount; e++) {
            if (leaves[e].isOf(p, false)) {
                drawing.drawBy(standIn, leaves[e].word);
                far += leaves[e].unlike(drawing.set());
            }
        }
        return far;
    }

    private long likelihood(int p, int kind) {
        standIn.becomeLike(players[p], kind);
        long product = 1;
        for (int e = 0; e < leafCount; e++) {
            if (leaves[e].isOf(p, true)) {
                shares.reckon(standIn, leaves[e].drawn, drawer(leaves[e].by));
                product *= shares.get(leaves[e].word);
            }
        }
        return product;
    }

    /** The first LEAF of a drawing that is least unlike, one of them left out; or NONE. */
    private int nearestLeaf(int set, int without) {
        int nearest = NONE;
        int least = PARTS + 1;
        for (int e = 0; e < leafCount; e++) {
            if (!leaves[e].isGuess && e != without && leaves[e].unlike(set) < least) {
                least = leaves[e].unlike(set);
                nearest = e;
            }
        }
        return nearest;
    }

    /** A SIGN that stayed once stays for ever, as the same is looked at again each WEEK. */
    private void shortenSign(int p, int q, int word) {
        if (drawing.size < 2) {
            return;
        }
        drawing.size--;
        shares.reckon(players[q], drawing, players[p]);
        if (shares.get(word) < SIGN_SHARE) {
            drawing.size++;
        }
    }

    private int sloppyPlayers() {
        int n = 0;
        for (int p = 0; p < playerCount; p++) {
            if (players[p].is(SLOPPY)) {
                n++;
            }
        }
        return n;
    }

    private static int sheetsThere(Sheet[] sheets) {
        int n = 0;
        for (int i = 0; i < sheets.length; i++) {
            if (!sheets[i].isMissing()) {
                n++;
            }
        }
        return n;
    }

    /** The next order of a[from] to a[size - 1] by its numbers; false behind the last one. */
    private static boolean nextOrder(int[] a, int from, int size) {
        if (from < 0 || size > a.length) {
            return false;
        }
        int i = size - 2;
        while (i >= from && a[i] >= a[i + 1]) {
            i--;
        }
        if (i < from) {
            return false;
        }
        int j = size - 1;
        while (j > i && a[j] <= a[i]) {
            j--;
        }
        swap(a, i, j);
        int low = i + 1;
        int high = size - 1;
        while (low < high) {
            swap(a, low, high);
            low++;
            high--;
        }
        return true;
    }

    private static void swap(int[] a, int i, int j) {
        int kept = a[i];
        a[i] = a[j];
        a[j] = kept;
    }

    /** A ROW or a TEXT: places that are made once, of which the first ones count. */
    private static final class Sheet {
        private final int[] places;
        // Below 0 it is missing.
        private int size = -1;

        Sheet(int most) {
            places = new int[Math.max(most, 0)];
        }

        boolean isMissing() {
            return size < 0;
        }

        boolean has(int i) {
            return i >= 0 && i < size;
        }

        /** Without i + n, which could wrap around. */
        boolean hasRange(int i, int n) {
            return i >= 0 && n >= 0 && i <= size && n <= size - i;
        }

        int get(int i) {
            return has(i) ? places[i] : 0;
        }

        void set(int i, int v) {
            if (has(i)) {
                places[i] = v;
            }
        }

        void renew(int n, int v) {
            size = Math.max(0, Math.min(n, places.length));
            for (int i = 0; i < size; i++) {
                places[i] = v;
            }
        }

        void take(int[] from, int n) {
            size = Math.max(0, Math.min(n, Math.min(from.length, places.length)));
            System.arraycopy(from, 0, places, 0, size);
        }

        void remove() {
            size = -1;
        }

        long total() {
            long sum = 0;
            for (int i = 0; i < size; i++) {
                sum += places[i];
            }
            return sum;
        }

        int placeFault(int i) {
            if (isMissing()) {
                return NOTHING;
            }
            return has(i) ? 0 : BEYOND;
        }

        /** The FINDING for which this is no DRAWN row, or 0. */
        int drawnFault() {
            if (isMissing()) {
                return NOTHING;
            }
            if (size < 1 || size > MOST_DRAWN) {
                return SIZE;
            }
            return isUnlikeBelow(PARTS) ? 0 : UNLIKE;
        }

        /** Whether all places hold numbers from 0 on below a bound (31 at most), none twice. */
        boolean isUnlikeBelow(int bound) {
            int seen = 0;
            for (int i = 0; i < size; i++) {
                int v = places[i];
                if (v < 0 || v >= bound || (seen >> v & 1) != 0) {
                    return false;
                }
                seen |= 1 << v;
            }
            return true;
        }

        int partSet() {
            int set = 0;
            for (int i = 0; i < size; i++) {
                set |= 1 << places[i];
            }
            return set;
        }

        /** The first place at which this can't go on as a BOX, or NONE. */
        int boxFault() {
            int words = 0;
            int figures = PARTS;
            int sum = 0;
            for (int i = 0; i < size; i++) {
                int c = places[i];
                if (figures < PARTS) {
                    if (c < FIRST_FIGURE || c > LAST_FIGURE) {
                        return i;
                    }
                    sum += c - FIRST_FIGURE;
                    figures++;
                    if (figures == PARTS && sum == 0) {
                        return i + 1;
                    }
                } else if (c == LETTER && words < WORDS) {
                    words++;
                    figures = 0;
                    sum = 0;
                } else if (c != BLANK) {
                    return i;
                }
            }
            return words == 0 || figures < PARTS ? size : NONE;
        }

        long digestOn(long start) {
            long h = 31 * start + size;
            for (int i = 0; i < size; i++) {
                h = 31 * h + places[i];
            }
            return h;
        }
    }

    /** How USUAL PARTS are in the WORDS of a LAND. */
    private static final class Box {
        private final int[] figures = new int[WORDS * PARTS];
        // No BOX is without a WORD, so 0 says that it is missing.
        private int words;

        /** Takes over a TEXT without a FAULT. */
        void read(Sheet text) {
            words = 0;
            int next = 0;
            for (int i = 0; i < text.size; i++) {
                int c = text.get(i);
                if (c == LETTER) {
                    words++;
                } else if (c != BLANK && next < figures.length) {
                    figures[next] = c - FIRST_FIGURE;
                    next++;
                }
            }
        }

        int usualOf(int word, int part) {
            boolean there = word >= 0 && word < words && part >= 0 && part < PARTS;
            return there ? figures[word * PARTS + part] : 0;
        }

        int usualSet(int word, int v) {
            int set = 0;
            for (int part = 0; part < PARTS; part++) {
                if (usualOf(word, part) >= v) {
                    set |= 1 << part;
                }
            }
            return set;
        }

        int usualInAll(Drawing drawn) {
            int sum = 0;
            for (int w = 0; w < words; w++) {
                for (int i = 0; i < drawn.size; i++) {
                    sum += usualOf(w, drawn.places[i]);
                }
            }
            return sum;
        }

        long digestOn(long start) {
            if (words == 0) {
                return 31 * start - 1;
            }
            long h = 31 * start + words;
            for (int i = 0; i < words * PARTS; i++) {
                h = 31 * h + figures[i];
            }
            return h;
        }
    }

    /** One who draws and guesses; the BOX is that of his LAND. */
    private static final class Player {
        private final int[] drawnSets = new int[WORDS];
        private int kind;
        private int land;
        private int many;
        private int favourite;
        private Box box;

        Player(Box first) {
            box = first;
        }

        void become(int newKind, int newLand, int newMany, int newFavourite, Box newBox) {
            kind = newKind;
            land = newLand;
            many = newMany;
            favourite = newFavourite;
            box = newBox;
        }

        void becomeLike(Player other, int newKind) {
            become(newKind, other.land, other.many, other.favourite, other.box);
        }

        boolean is(int asked) {
            return kind == asked || kind == TURNED && asked == SLOPPY;
        }

        int drawsAtMost() {
            return is(SLOPPY) ? Math.max(1, many - 1) : many;
        }

        int tells(int what) {
            switch (what) {
                case 0:
                    return kind;
                case 1:
                    return land;
                case 2:
                    return many;
                default:
                    return favourite;
            }
        }

        int asNumber() {
            return 1000 * kind + 100 * land + 10 * many + favourite;
        }
    }

    /** DRAWN PARTS in their order. */
    private static final class Drawing {
        private final int[] places = new int[MOST_DRAWN];
        private int size;

        void take(Sheet row) {
            size = 0;
            for (int i = 0; i < row.size && i < MOST_DRAWN; i++) {
                add(row.get(i));
            }
        }

        /** The least number first. */
        void takeSet(int set) {
            size = 0;
            for (int part = 0; part < PARTS; part++) {
                if ((set >> part & 1) != 0) {
                    add(part);
                }
            }
        }

        void drawBy(Player p, int word) {
            size = 0;
            int left = p.drawsAtMost();
            int drawn = 0;
            while (left > 0) {
                int part = mostUsual(p.box, word, drawn);
                if (part == NONE) {
                    return;
                }
                add(part);
                drawn |= 1 << part;
                left--;
            }
        }

        private void add(int part) {
            if (size >= 0 && size < places.length) {
                places[size] = part;
                size++;
            }
        }

        private static int mostUsual(Box box, int word, int drawn) {
            int best = NONE;
            int most = 0;
            for (int part = 0; part < PARTS; part++) {
                int usual = box.usualOf(word, part);
                if (usual > most && (drawn >> part & 1) == 0) {
                    most = usual;
                    best = part;
                }
            }
            return best;
        }

        int set() {
            int set = 0;
            for (int i = 0; i < size; i++) {
                set |= 1 << places[i];
            }
            return set;
        }
    }

    /** How one guesses a drawing, by WORDS. */
    private static final class Shares {
        private final int[] sums = new int[WORDS];
        private final int[] cut = new int[WORDS];
        private int words;
        private int greatest;

        int get(int word) {
            return word >= 0 && word < words ? cut[word] : 0;
        }

        /** The one who drew is null, if it is not known who did. */
        void reckon(Player p, Drawing seen, Player by) {
            words = p.box.words;
            int all = 0;
            int most = 0;
            for (int w = 0; w < words; w++) {
                sums[w] = sumOf(p, seen, by, w);
                all += sums[w];
                if (sums[w] > sums[most]) {
                    most = w;
                }
            }
            greatest = all == 0 ? p.favourite : most;
            share(all);
        }

        private void share(int all) {
            int left = SHARES;
            for (int w = 0; w < words; w++) {
                cut[w] = all == 0 ? 0 : SHARES * sums[w] / all;
                left -= cut[w];
            }
            if (greatest >= 0 && greatest < words) {
                cut[greatest] += left;
            }
        }

        private int sumOf(Player p, Drawing seen, Player by, int word) {
            int sum = p.kind == FIXED && word == p.favourite ? 9 : 0;
            int looked = p.kind == PARTED ? Math.min(1, seen.size) : seen.size;
            for (int i = 0; i < looked; i++) {
                int part = seen.places[i];
                sum += p.box.usualOf(word, p.kind == TURNED ? PARTS - 1 - part : part);
            }
            if (p.kind == READER && by != null) {
                sum += 4 * Integer.bitCount(by.drawnSets[word] & seen.set());
            }
            return sum;
        }
    }

    /** A TABLE and the STEPS between its PLAYERS. */
    private static final class Round {
        // By who draws, who guesses, the WORD drawn, the WORD guessed.
        private final int[] steps = new int[PLAYERS * PLAYERS * WORDS * WORDS];
        private final int[] order = new int[PLAYERS];
        private final int[] best = new int[PLAYERS];
        private final long[] odds = new long[WORDS];
        private final long[] next = new long[WORDS];
        private int size;
        private int words;
        private long bestKept;

        void seat(Sheet table, int newWords) {
            words = Math.min(newWords, WORDS);
            size = Math.min(table.size, PLAYERS);
            for (int place = 0; place < size; place++) {
                order[place] = table.get(place);
            }
        }

        void learn(int p, int q, int word, Shares shares) {
            int base = (p * PLAYERS + q) * WORDS * WORDS + word * WORDS;
            if (base < 0 || base + WORDS > steps.length) {
                return;
            }
            for (int w = 0; w < words; w++) {
                steps[base + w] = shares.get(w);
            }
        }

        /** Of so many all odds are. */
        long whole() {
            long whole = 1;
            for (int k = 0; k < size / 2; k++) {
                whole *= SHARES;
            }
            return whole;
        }

        private void begin(int word) {
            for (int w = 0; w < words; w++) {
                odds[w] = w == word ? 1 : 0;
            }
        }

        void beginWithAll() {
            for (int w = 0; w < WORDS; w++) {
                odds[w] = 1;
            }
        }

        /** Where the SHARES of a STEP begin, for a PAD that starts at a place. */
        private int stepBase(int start, int k) {
            if (size < 1) {
                return 0;
            }
            int p = order[(start + 2 * k) % size];
            int q = order[(start + 2 * k + 1) % size];
            return (p * PLAYERS + q) * WORDS * WORDS;
        }

        private void pass(int base) {
            for (int v = 0; v < words; v++) {
                next[v] = 0;
            }
            for (int w = 0; w < words; w++) {
                for (int v = 0; v < words && odds[w] != 0; v++) {
                    next[v] += odds[w] * steps[base + w * WORDS + v];
                }
            }
            for (int v = 0; v < words; v++) {
                odds[v] = next[v];
            }
        }

        void passFrom(int start) {
            for (int k = 0; k < size / 2; k++) {
                pass(stepBase(start, k));
            }
        }

        /** Of whole(), how often a PAD that starts at a place comes from a WORD to another. */
        long reach(int start, int word, int other) {
            begin(word);
            int last = size / 2 - 1;
            for (int k = 0; k < last; k++) {
                pass(stepBase(start, k));
            }
            int base = stepBase(start, last);
            long sum = 0;
            for (int w = 0; w < words; w++) {
                sum += odds[w] * steps[base + w * WORDS + other];
            }
            return sum;
        }

        long reachOffAt(int word, int other, int k) {
            begin(word);
            for (int step = 0; step < size / 2; step++) {
                pass(stepBase(0, step));
                for (int w = 0; w < words && step <= k; w++) {
                    boolean home = w == word;
                    if (home == (step == k)) {
                        odds[w] = 0;
                    }
                }
            }
            return odds[other];
        }

        private long keptBy(Sheet pads) {
            long sum = 0;
            for (int k = 0; k < size; k++) {
                sum += reach(k, pads.get(k), pads.get(k));
            }
            return sum;
        }

        /** Finds the best order, the first one staying; how many are as good. */
        int seatBest(Sheet pads) {
            sortOthers();
            bestKept = -1;
            int good = 0;
            boolean more = true;
            for (int tries = 0; tries < MOST_ORDERS && more; tries++) {
                long kept = keptBy(pads);
                if (kept > bestKept) {
                    bestKept = kept;
                    good = 0;
                    System.arraycopy(order, 0, best, 0, PLAYERS);
                }
                if (kept == bestKept) {
                    good++;
                }
                more = nextOrder(order, 1, size);
            }
            return good;
        }

        private void sortOthers() {
            for (int i = 2; i < size; i++) {
                for (int j = i; j > 1 && order[j] < order[j - 1]; j--) {
                    swap(order, j, j - 1);
                }
            }
        }
    }

    /** One who watches DRAWN PARTS come, in each order of them. */
    private static final class Watch {
        private final int[] sorted = new int[MOST_DRAWN];
        private final int[] order = new int[MOST_DRAWN];
        private final int[] best = new int[MOST_DRAWN];
        // By bits of places in sorted.
        private final boolean[] knows = new boolean[1 << MOST_DRAWN];
        private int size;
        private boolean byFirstAlone;

        void begin(int partSet, boolean parted) {
            byFirstAlone = parted;
            size = 0;
            for (int part = 0; part < PARTS && size < MOST_DRAWN; part++) {
                if ((partSet >> part & 1) != 0) {
                    sorted[size] = part;
                    order[size] = size;
                    size++;
                }
            }
        }

        void partsAt(int places, Drawing drawing) {
            int set = 0;
            for (int i = 0; i < size; i++) {
                if ((places >> i & 1) != 0) {
                    set |= 1 << sorted[i];
                }
            }
            drawing.takeSet(set);
        }

        void learn(int places, boolean known) {
            if (places >= 0 && places < knows.length) {
                knows[places] = known;
            }
        }

        /** The least number of PARTS by which the WORD is known for good, or NONE. */
        int soonest() {
            int least = size + 1;
            boolean more = true;
            for (int tries = 0; tries < MOST_ORDERS && more; tries++) {
                int k = knownFrom();
                if (k < least) {
                    least = k;
                    keepOrder();
                }
                more = nextOrder(order, 0, size);
            }
            return least > size ? NONE : least;
        }

        private int knownFrom() {
            int places = 0;
            int from = size + 1;
            for (int i = 0; i < size; i++) {
                places |= 1 << order[i];
                boolean known = knows[byFirstAlone ? 1 << order[0] : places];
                if (!known) {
                    from = size + 1;
                } else if (from > size) {
                    from = i + 1;
                }
            }
            return from;
        }

        private void keepOrder() {
            for (int i = 0; i < size; i++) {
                best[i] = sorted[order[i]];
            }
        }
    }

    /** What is told of a drawing or of a guess. */
    private static final class Leaf {
        private final Drawing drawn = new Drawing();
        private boolean isGuess;
        private int who;
        private int word;
        private int set;
        private int by;

        void write(boolean guess, int p, int newWord, Sheet row, int newBy) {
            isGuess = guess;
            who = p;
            word = newWord;
            drawn.take(row);
            set = drawn.set();
            by = newBy;
        }

        boolean isOf(int p, boolean guess) {
            return who == p && isGuess == guess;
        }

        int unlike(int otherSet) {
            return Integer.bitCount(set ^ otherSet);
        }

        int tells(int what) {
            switch (what) {
                case 0:
                    return isGuess ? 1 : 0;
                case 1:
                    return who;
                case 2:
                    return word;
                case 3:
                    return set;
                default:
                    return by;
            }
        }
    }

    /** What is told beside the answers. */
    private static final class Answers {
        private final int[] findings = new int[SIZE + 1];
        private int finding;
        private int asked;
        private long upper;
        private long lower = 1;

        int found(int f) {
            finding = f;
            if (f >= NOTHING && f <= SIZE) {
                findings[f]++;
            }
            return FINDING;
        }

        int ask(int v) {
            asked = v;
            return 1;
        }

        /** A fraction, neither number below 0, the lower one above 0. */
        int tell(long up, long low) {
            long a = up;
            long b = low;
            // Euclid's way ends within some ninety rounds for any two longs.
            for (int i = 0; i < 100 && b != 0; i++) {
                long rest = a % b;
                a = b;
                b = rest;
            }
            upper = a == 0 ? 0 : up / a;
            lower = a == 0 ? 1 : low / a;
            return 1;
        }
    }
}
