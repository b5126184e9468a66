import java.math.BigInteger;
import java.util.ArrayList;
import java.util.Arrays;
import java.util.LinkedHashSet;
import java.util.List;
import java.util.Random;
import java.util.Set;
import java.util.TreeSet;

/**
 * Runs of calls by chance on a PadRound and on a slow second reading of the document,
 * written by other means (lists, sets, fractions, recursion): both must answer alike.
 */
public final class ModelTest {
    private static final int BAD = -1, FULL = -2, STATE = -4, SPENT = -6, NONE = -9;
    private static final int NOTHING = 1, BEYOND = 2, UNLIKE = 3, NOUGHT = 4, SIZE = 5;
    private static final int RUNS = 300, CALLS = 120;
    private static final String[] NAMES = {"row", "lay", "at", "tear", "copy", "mean", "text", "put", "fault", "box",
        "usual", "player", "about", "mark", "draws", "guess", "step", "comes", "most", "keeps", "was", "off", "kept",
        "seats", "parts", "few", "soon", "common", "land", "leaf", "guessed", "told", "back", "hand", "guesser",
        "machine", "held", "sign", "stranger", "image", "on", "asked", "upper", "lower", "count", "finding",
        "findings", "digest"};

    record Fraction(BigInteger up, BigInteger low) {
        static Fraction of(long a, long b) {
            BigInteger x = BigInteger.valueOf(a);
            BigInteger y = BigInteger.valueOf(b);
            BigInteger g = x.gcd(y);
            return new Fraction(x.divide(g), y.divide(g));
        }

        Fraction plus(Fraction o) {
            return reduced(up.multiply(o.low).add(o.up.multiply(low)), low.multiply(o.low));
        }

        Fraction times(Fraction o) {
            return reduced(up.multiply(o.up), low.multiply(o.low));
        }

        Fraction by(Fraction o) {
            return reduced(up.multiply(o.low), low.multiply(o.up));
        }

        int compare(Fraction o) {
            return up.multiply(o.low).compareTo(o.up.multiply(low));
        }

        private static Fraction reduced(BigInteger a, BigInteger b) {
            BigInteger g = a.gcd(b);
            return new Fraction(a.divide(g), b.divide(g));
        }
    }

    record Who(int kind, int land, int parts, int favourite) {
        boolean sloppy() {
            return kind == 1 || kind == 4;
        }
    }

    record Page(boolean guess, int who, int word, List<Integer> drawn, int by) { }

    /** Ends a call of the model early. */
    static final class Refused extends RuntimeException {
        private static final long serialVersionUID = 1;
        final int answer;

        Refused(int answer) {
            super(null, null, false, false);
            this.answer = answer;
        }
    }

    static final class Model {
        List<List<Integer>> rows = new ArrayList<>();
        List<List<Integer>> texts = new ArrayList<>();
        List<List<int[]>> boxes = new ArrayList<>();
        List<Who> players = new ArrayList<>();
        List<Page> pages = new ArrayList<>();
        int[] found = new int[6];
        int finding = 0;
        int asked = 0;
        Fraction told = Fraction.of(0, 1);

        Model() {
            for (int i = 0; i < 6; i++) {
                rows.add(null);
            }
            for (int i = 0; i < 4; i++) {
                texts.add(null);
            }
            boxes.add(null);
            boxes.add(null);
        }

        void bad(boolean b) {
            if (b) {
                throw new Refused(BAD);
            }
        }

        void refuse(boolean b, int answer) {
            if (b) {
                throw new Refused(answer);
            }
        }

        void find(boolean b, int f) {
            if (b) {
                finding = f;
                found[f]++;
                throw new Refused(-3);
            }
        }

        static boolean in(int v, int low, int high) {
            return low <= v && v <= high;
        }

        int words() {
            return boxes.get(0) == null ? 0 : boxes.get(0).size();
        }

        boolean counts(int land) {
            return boxes.get(land) != null && boxes.get(land).size() == words();
        }

        void needRow(int r) {
            bad(!in(r, 0, 5));
        }

        void needPlayer(int p) {
            bad(!in(p, 0, players.size() - 1));
        }

        void needWord(int w) {
            bad(!in(w, 0, words() - 1));
        }

        int tell(int v) {
            asked = v;
            return 1;
        }

        List<Integer> drawnRow(int r) {
            List<Integer> row = rows.get(r);
            find(row == null, NOTHING);
            find(!in(row.size(), 1, 6), SIZE);
            find(row.stream().anyMatch(v -> !in(v, 0, 9)) || new TreeSet<>(row).size() < row.size(), UNLIKE);
            return new ArrayList<>(row);
        }

        List<Integer> table(int r) {
            List<Integer> row = rows.get(r);
            find(row == null, NOTHING);
            find(!in(row.size(), 2, 8) || row.size() % 2 == 1, SIZE);
            find(row.stream().anyMatch(v -> !in(v, 0, players.size() - 1)) || new TreeSet<>(row).size() < row.size(),
                    UNLIKE);
            return new ArrayList<>(row);
        }

        List<Integer> drawing(Who p, int word) {
            int[] figures = boxes.get(p.land).get(word);
            List<Integer> order = new ArrayList<>();
            for (int i = 0; i < 10; i++) {
                if (figures[i] > 0) {
                    order.add(i);
                }
            }
            order.sort((a, b) -> figures[a] != figures[b] ? figures[b] - figures[a] : a - b);
            int many = p.sloppy() ? Math.max(1, p.parts - 1) : p.parts;
            return new ArrayList<>(order.subList(0, Math.min(many, order.size())));
        }

        List<Integer> sharesOf(Who p, List<Integer> seen, Who by) {
            int n = words();
            int[] sums = new int[n];
            for (int w = 0; w < n; w++) {
                int[] figures = boxes.get(p.land).get(w);
                if (p.kind == 3) {
                    sums[w] = figures[seen.get(0)];
                } else {
                    for (int part : seen) {
                        sums[w] += figures[p.kind == 4 ? 9 - part : part];
                    }
                }
                if (p.kind == 2 && p.favourite == w) {
                    sums[w] += 9;
                }
                if (p.kind == 5 && by != null) {
                    List<Integer> own = drawing(by, w);
                    for (int part : seen) {
                        sums[w] += own.contains(part) ? 4 : 0;
                    }
                }
            }
            int all = Arrays.stream(sums).sum();
            List<Integer> shares = new ArrayList<>();
            for (int w = 0; w < n; w++) {
                shares.add(all == 0 ? 0 : 24 * sums[w] / all);
            }
            int lacks = 24 - shares.stream().mapToInt(v -> v).sum();
            int to = p.favourite;
            if (all > 0) {
                int high = Arrays.stream(sums).max().getAsInt();
                to = 0;
                while (sums[to] != high) {
                    to++;
                }
            }
            shares.set(to, shares.get(to) + lacks);
            return shares;
        }

        static int greatest(List<Integer> shares) {
            int best = 0;
            for (int w = 0; w < shares.size(); w++) {
                if (shares.get(w) > shares.get(best)) {
                    best = w;
                }
            }
            return best;
        }

        static int bits(List<Integer> parts) {
            int set = 0;
            for (int part : parts) {
                set |= 1 << part;
            }
            return set;
        }

        Fraction odds(List<Integer> table, int from, int word, int other) {
            if (from == table.size()) {
                return Fraction.of(word == other ? 1 : 0, 1);
            }
            Who p = players.get(table.get(from));
            Who q = players.get(table.get(from + 1));
            List<Integer> shares = sharesOf(q, drawing(p, word), p);
            Fraction sum = Fraction.of(0, 1);
            for (int w = 0; w < words(); w++) {
                if (shares.get(w) > 0) {
                    sum = sum.plus(Fraction.of(shares.get(w), 24).times(odds(table, from + 2, w, other)));
                }
            }
            return sum;
        }

        /** Goes every way that a WORD can go, and looks where it first was another one. */
        Fraction oddsOff(List<Integer> table, int from, int now, int[] goal, int offAt) {
            if (from == table.size()) {
                return Fraction.of(now == goal[1] && offAt == goal[2] ? 1 : 0, 1);
            }
            Who p = players.get(table.get(from));
            Who q = players.get(table.get(from + 1));
            List<Integer> shares = sharesOf(q, drawing(p, now), p);
            Fraction sum = Fraction.of(0, 1);
            for (int w = 0; w < words(); w++) {
                if (shares.get(w) > 0) {
                    int off = offAt < 0 && w != goal[0] ? from / 2 : offAt;
                    sum = sum.plus(Fraction.of(shares.get(w), 24).times(oddsOff(table, from + 2, w, goal, off)));
                }
            }
            return sum;
        }

        Fraction padOdds(List<Integer> table, int k, int word) {
            List<Integer> turned = new ArrayList<>(table.subList(k, table.size()));
            turned.addAll(table.subList(0, k));
            return odds(turned, 0, word, word);
        }

        Fraction keptOf(List<Integer> table, List<Integer> pads) {
            Fraction sum = Fraction.of(0, 1);
            for (int k = 0; k < table.size(); k++) {
                sum = sum.plus(padOdds(table, k, pads.get(k)));
            }
            return sum;
        }

        static void orders(List<Integer> done, List<Integer> left, List<List<Integer>> all) {
            if (left.isEmpty()) {
                all.add(new ArrayList<>(done));
                return;
            }
            for (int v : new TreeSet<>(left)) {
                done.add(v);
                List<Integer> rest = new ArrayList<>(left);
                rest.remove((Integer) v);
                orders(done, rest, all);
                done.remove(done.size() - 1);
            }
        }

        static List<Integer> asParts(int set) {
            List<Integer> parts = new ArrayList<>();
            for (int i = 0; i < 10; i++) {
                if ((set & 1 << i) != 0) {
                    parts.add(i);
                }
            }
            return parts;
        }

        /** By a pattern: each place is looked at as the end of a good beginning. */
        static int boxFault(List<Integer> text) {
            StringBuilder s = new StringBuilder();
            for (int v : text) {
                s.append((char) (v & 255));
            }
            if (isBox(s.toString())) {
                return NONE;
            }
            for (int i = 0; i < s.length(); i++) {
                if (!canGoOn(s.substring(0, i + 1))) {
                    return i + 1 >= 11 && allNought(s.substring(0, i + 1)) ? i + 1 : i;
                }
            }
            return s.length();
        }

        static boolean isBox(String s) {
            return s.matches(" *(w[0-9]{10} *){1,8}") && !s.contains("w0000000000");
        }

        static boolean allNought(String s) {
            return s.matches(" *(w[0-9]{10} *){0,7}w0000000000");
        }

        static boolean canGoOn(String s) {
            for (int figures = 0; figures <= 10; figures++) {
                if (isBox(s + "1".repeat(figures)) || isBox(s + "w1111111111") || s.isBlank()) {
                    return s.chars().allMatch(c -> c == ' ') || s.contains("w");
                }
            }
            return false;
        }

        int call(String name, int[] a) {
            try {
                return answer(name, a);
            } catch (Refused r) {
                return r.answer;
            }
        }

        int answer(String name, int[] a) {
            switch (name) {
                case "row": {
                    bad(!in(a[0], 0, 5) || a[1] > 40);
                    find(a[1] < 0, SIZE);
                    rows.set(a[0], filled(a[1], 0));
                    return a[1];
                }
                case "lay": {
                    needRow(a[0]);
                    find(rows.get(a[0]) == null, NOTHING);
                    find(!in(a[1], 0, rows.get(a[0]).size() - 1), BEYOND);
                    return tell(rows.get(a[0]).set(a[1], a[2]));
                }
                case "at": {
                    needRow(a[0]);
                    find(rows.get(a[0]) == null, NOTHING);
                    find(!in(a[1], 0, rows.get(a[0]).size() - 1), BEYOND);
                    return tell(rows.get(a[0]).get(a[1]));
                }
                case "tear": {
                    needRow(a[0]);
                    find(rows.get(a[0]) == null, NOTHING);
                    rows.set(a[0], null);
                    return 1;
                }
                case "copy": {
                    needRow(a[0]);
                    needRow(a[2]);
                    find(a[4] < 0, SIZE);
                    List<Integer> from = rows.get(a[0]);
                    List<Integer> to = rows.get(a[2]);
                    find(from == null || to == null, NOTHING);
                    find(a[1] < 0 || a[3] < 0 || (long) a[1] + a[4] > from.size() || (long) a[3] + a[4] > to.size(),
                            BEYOND);
                    List<Integer> taken = new ArrayList<>(from.subList(a[1], a[1] + a[4]));
                    for (int i = 0; i < a[4]; i++) {
                        to.set(a[3] + i, taken.get(i));
                    }
                    return 1;
                }
                case "mean": {
                    needRow(a[0]);
                    find(rows.get(a[0]) == null, NOTHING);
                    find(rows.get(a[0]).isEmpty(), NOUGHT);
                    BigInteger sum = BigInteger.ZERO;
                    for (int v : rows.get(a[0])) {
                        sum = sum.add(BigInteger.valueOf(v));
                    }
                    return tell(sum.divide(BigInteger.valueOf(rows.get(a[0]).size())).intValueExact());
                }
                case "text": {
                    bad(!in(a[0], 0, 3) || a[1] > 120);
                    find(a[1] < 0, SIZE);
                    texts.set(a[0], filled(a[1], 32));
                    return a[1];
                }
                case "put": {
                    bad(!in(a[0], 0, 3));
                    find(texts.get(a[0]) == null, NOTHING);
                    find(!in(a[1], 0, texts.get(a[0]).size() - 1), BEYOND);
                    return texts.get(a[0]).set(a[1], (int) (byte) a[2]) + 1000;
                }
                case "fault": {
                    bad(!in(a[0], 0, 3));
                    find(texts.get(a[0]) == null, NOTHING);
                    return boxFault(texts.get(a[0]));
                }
                case "box": {
                    bad(!in(a[0], 0, 1) || !in(a[1], 0, 3));
                    find(texts.get(a[1]) == null, NOTHING);
                    refuse(boxFault(texts.get(a[1])) != NONE, STATE);
                    StringBuilder s = new StringBuilder();
                    for (int v : texts.get(a[1])) {
                        s.append((char) v);
                    }
                    List<int[]> box = new ArrayList<>();
                    for (String item : s.toString().replace(" ", "").substring(1).split("w")) {
                        box.add(item.chars().map(c -> c - '0').toArray());
                    }
                    boxes.set(a[0], box);
                    players.clear();
                    pages.clear();
                    return box.size();
                }
                case "usual": {
                    bad(!in(a[0], 0, 1) || !in(a[1], 0, 7) || !in(a[2], 0, 9));
                    find(!counts(a[0]), NOTHING);
                    needWord(a[1]);
                    return boxes.get(a[0]).get(a[1])[a[2]];
                }
                case "player": {
                    bad(!in(a[0], 0, 5) || !in(a[1], 0, 1) || !in(a[2], 1, 6) || !in(a[3], 0, 7));
                    find(!counts(a[1]), NOTHING);
                    needWord(a[3]);
                    refuse(players.size() == 8, FULL);
                    players.add(new Who(a[0], a[1], a[2], a[3]));
                    return players.size() - 1;
                }
                case "about": {
                    needPlayer(a[0]);
                    bad(!in(a[1], 0, 3));
                    return tell(aboutOf(players.get(a[0]), a[1]));
                }
                case "mark":
                    return markOf(a[0], a[1]);
                default:
                    return answerRounds(name, a);
            }
        }

        static int aboutOf(Who p, int what) {
            return new int[] {p.kind, p.land, p.parts, p.favourite}[what];
        }

        static List<Integer> filled(int n, int v) {
            List<Integer> list = new ArrayList<>();
            for (int i = 0; i < n; i++) {
                list.add(v);
            }
            return list;
        }

        int markOf(int n, int kind) {
            needPlayer(n);
            bad(!in(kind, 1, 5));
            Who p = players.get(n);
            find(p.kind != kind && !(kind == 1 && p.sloppy()), UNLIKE);
            List<Integer> first = List.of(0);
            if (kind == 1) {
                return drawing(p, 0).size();
            }
            if (kind == 2) {
                return sharesOf(p, first, null).get(p.favourite);
            }
            if (kind == 3) {
                return p.parts;
            }
            if (kind == 4) {
                return greatest(sharesOf(p, first, null));
            }
            return (int) players.stream().filter(q -> sharesOf(p, drawing(q, 0), q).get(0)
                    > sharesOf(p, drawing(q, 0), null).get(0)).count();
        }

        int answerRounds(String name, int[] a) {
            switch (name) {
                case "draws": {
                    needPlayer(a[0]);
                    needWord(a[1]);
                    needRow(a[2]);
                    rows.set(a[2], drawing(players.get(a[0]), a[1]));
                    return rows.get(a[2]).size();
                }
                case "guess": {
                    needPlayer(a[0]);
                    needRow(a[1]);
                    bad(a[2] != NONE && !in(a[2], 0, players.size() - 1));
                    needRow(a[3]);
                    List<Integer> shares = sharesOf(players.get(a[0]), drawnRow(a[1]),
                            a[2] == NONE ? null : players.get(a[2]));
                    rows.set(a[3], shares);
                    return greatest(shares);
                }
                case "step": {
                    needPlayer(a[0]);
                    needPlayer(a[1]);
                    bad(a[0] == a[1]);
                    needWord(a[2]);
                    needRow(a[3]);
                    Who p = players.get(a[0]);
                    rows.set(a[3], sharesOf(players.get(a[1]), drawing(p, a[2]), p));
                    return rows.get(a[3]).get(a[2]);
                }
                case "comes": {
                    needRow(a[0]);
                    needWord(a[1]);
                    needWord(a[2]);
                    told = odds(table(a[0]), 0, a[1], a[2]);
                    return 1;
                }
                case "most": {
                    needRow(a[0]);
                    List<Integer> table = table(a[0]);
                    int best = -1;
                    Fraction high = null;
                    for (int to = 0; to < words(); to++) {
                        Fraction sum = Fraction.of(0, 1);
                        for (int w = 0; w < words(); w++) {
                            sum = sum.plus(odds(table, 0, w, to));
                        }
                        if (high == null || sum.compare(high) > 0) {
                            high = sum;
                            best = to;
                        }
                    }
                    told = high;
                    return best;
                }
                case "keeps": {
                    needRow(a[0]);
                    bad(!in(a[1], 1, 99) || !in(a[2], 1, 99) || a[1] > a[2]);
                    List<Integer> table = table(a[0]);
                    int set = 0;
                    int least = 0;
                    Fraction low = null;
                    for (int w = 0; w < words(); w++) {
                        Fraction home = odds(table, 0, w, w);
                        set |= home.compare(Fraction.of(a[1], a[2])) >= 0 ? 1 << w : 0;
                        if (low == null || home.compare(low) < 0) {
                            low = home;
                            least = w;
                        }
                    }
                    tell(least);
                    return set;
                }
                case "was": {
                    needRow(a[0]);
                    needWord(a[1]);
                    needWord(a[2]);
                    List<Integer> table = table(a[0]);
                    Fraction all = Fraction.of(0, 1);
                    for (int w = 0; w < words(); w++) {
                        all = all.plus(odds(table, 0, w, a[1]));
                    }
                    find(all.up().signum() == 0, NOUGHT);
                    told = odds(table, 0, a[2], a[1]).by(all);
                    return 1;
                }
                case "off": {
                    needRow(a[0]);
                    needWord(a[1]);
                    needWord(a[2]);
                    bad(a[1] == a[2] || !in(a[3], 0, 3));
                    List<Integer> table = table(a[0]);
                    bad(a[3] >= table.size() / 2);
                    Fraction all = odds(table, 0, a[1], a[2]);
                    find(all.up().signum() == 0, NOUGHT);
                    told = oddsOff(table, 0, a[1], new int[] {a[1], a[2], a[3]}, -1).by(all);
                    return 1;
                }
                default:
                    return answerPads(name, a);
            }
        }

        List<Integer> padsRow(int r, int pads) {
            List<Integer> row = rows.get(pads);
            find(rows.get(r) == null || row == null, NOTHING);
            int n = rows.get(r).size();
            find(!in(n, 2, 8) || n % 2 == 1 || row.size() != n, SIZE);
            table(r);
            find(row.stream().anyMatch(w -> !in(w, 0, words() - 1)), UNLIKE);
            return row;
        }

        int answerPads(String name, int[] a) {
            switch (name) {
                case "kept": {
                    needRow(a[0]);
                    needRow(a[1]);
                    List<Integer> pads = padsRow(a[0], a[1]);
                    List<Integer> table = table(a[0]);
                    int best = 0;
                    for (int k = 1; k < table.size(); k++) {
                        if (padOdds(table, k, pads.get(k)).compare(padOdds(table, best, pads.get(best))) > 0) {
                            best = k;
                        }
                    }
                    told = keptOf(table, pads);
                    return best;
                }
                case "seats": {
                    needRow(a[0]);
                    needRow(a[1]);
                    needRow(a[2]);
                    List<Integer> pads = padsRow(a[0], a[1]);
                    List<Integer> table = table(a[0]);
                    refuse(table.size() == 8, SPENT);
                    List<List<Integer>> all = new ArrayList<>();
                    orders(new ArrayList<>(table.subList(0, 1)), table.subList(1, table.size()), all);
                    Fraction high = null;
                    List<Integer> best = null;
                    int good = 0;
                    for (List<Integer> order : all) {
                        Fraction kept = keptOf(order, pads);
                        if (high == null || kept.compare(high) > 0) {
                            high = kept;
                            best = order;
                            good = 0;
                        }
                        good += kept.compare(high) == 0 ? 1 : 0;
                    }
                    told = high;
                    rows.set(a[2], best);
                    return good;
                }
                case "parts": {
                    needPlayer(a[0]);
                    needWord(a[1]);
                    bad(!in(a[2], 1, 6));
                    int best = -1;
                    int high = -1;
                    for (int set = 1023; set > 0; set--) {
                        if (asParts(set).size() == a[2]) {
                            int share = sharesOf(players.get(a[0]), asParts(set), null).get(a[1]);
                            if (share >= high) {
                                high = share;
                                best = set;
                            }
                        }
                    }
                    tell(high);
                    return best;
                }
                case "few": {
                    needPlayer(a[0]);
                    needWord(a[1]);
                    bad(!in(a[2], 1, 24));
                    int best = NONE;
                    int fewest = 7;
                    for (int set = 1; set < 1024; set++) {
                        int n = asParts(set).size();
                        if (n < fewest && sharesOf(players.get(a[0]), asParts(set), null).get(a[1]) >= a[2]) {
                            fewest = n;
                            best = set;
                        }
                    }
                    refuse(best == NONE, NONE);
                    tell(best);
                    return fewest;
                }
                case "soon": {
                    needPlayer(a[0]);
                    needWord(a[1]);
                    needRow(a[2]);
                    needRow(a[3]);
                    List<List<Integer>> all = new ArrayList<>();
                    orders(new ArrayList<>(), drawnRow(a[2]), all);
                    int n = all.get(0).size();
                    int least = n + 1;
                    List<Integer> best = null;
                    for (List<Integer> order : all) {
                        int k = n + 1;
                        while (k > 1 && greatest(sharesOf(players.get(a[0]), order.subList(0, k - 1), null)) == a[1]) {
                            k--;
                        }
                        if (k < least) {
                            least = k;
                            best = order;
                        }
                    }
                    refuse(best == null, NONE);
                    rows.set(a[3], best);
                    return least;
                }
                case "common": {
                    bad(!in(a[0], 0, 7) || !in(a[1], 1, 9));
                    find(!counts(0) || !counts(1), NOTHING);
                    needWord(a[0]);
                    int both = 0;
                    int one = 0;
                    for (int part = 0; part < 10; part++) {
                        int lands = (boxes.get(0).get(a[0])[part] >= a[1] ? 1 : 0)
                                + (boxes.get(1).get(a[0])[part] >= a[1] ? 1 : 0);
                        both |= lands == 2 ? 1 << part : 0;
                        one |= lands == 1 ? 1 << part : 0;
                    }
                    tell(one);
                    return both;
                }
                case "land": {
                    needRow(a[0]);
                    find(rows.get(a[0]) == null || !counts(0) || !counts(1), NOTHING);
                    int[] sums = new int[2];
                    for (int part : drawnRow(a[0])) {
                        for (int land = 0; land < 2; land++) {
                            sums[land] += boxes.get(land).stream().mapToInt(f -> f[part]).sum();
                        }
                    }
                    find(sums[0] + sums[1] == 0, NOUGHT);
                    told = Fraction.of(sums[0], sums[0] + sums[1]);
                    return 1;
                }
                default:
                    return answerLeaves(name, a);
            }
        }

        static int toldOf(Page e, int what) {
            return new int[] {e.guess ? 1 : 0, e.who, e.word, bits(e.drawn), e.by}[what];
        }

        static int unlike(List<Integer> one, List<Integer> other) {
            Set<Integer> either = new LinkedHashSet<>(one);
            either.addAll(other);
            Set<Integer> both = new LinkedHashSet<>(one);
            both.retainAll(other);
            return either.size() - both.size();
        }

        static Page nearest(List<Page> drawings, List<Integer> drawn) {
            Page best = null;
            for (Page e : drawings) {
                if (best == null || unlike(e.drawn, drawn) < unlike(best.drawn, drawn)) {
                    best = e;
                }
            }
            return best;
        }

        List<Page> drawings() {
            return new ArrayList<>(pages.stream().filter(e -> !e.guess).toList());
        }

        int answerLeaves(String name, int[] a) {
            switch (name) {
                case "leaf": {
                    needPlayer(a[0]);
                    needWord(a[1]);
                    needRow(a[2]);
                    List<Integer> drawn = drawnRow(a[2]);
                    refuse(pages.size() == 12, FULL);
                    pages.add(new Page(false, a[0], a[1], drawn, NONE));
                    return pages.size() - 1;
                }
                case "guessed": {
                    needPlayer(a[0]);
                    needRow(a[1]);
                    bad(a[2] != NONE && !in(a[2], 0, players.size() - 1));
                    needWord(a[3]);
                    List<Integer> drawn = drawnRow(a[1]);
                    refuse(pages.size() == 12, FULL);
                    pages.add(new Page(true, a[0], a[3], drawn, a[2]));
                    return pages.size() - 1;
                }
                case "told": {
                    bad(!in(a[0], 0, pages.size() - 1) || !in(a[1], 0, 4));
                    return tell(toldOf(pages.get(a[0]), a[1]));
                }
                case "back": {
                    bad(!in(a[0], 0, pages.size()));
                    int before = pages.size();
                    pages = new ArrayList<>(pages.subList(0, a[0]));
                    return before - a[0];
                }
                case "hand": {
                    needPlayer(a[0]);
                    Who p = players.get(a[0]);
                    List<Page> his = drawings().stream().filter(e -> e.who == a[0]).toList();
                    find(his.isEmpty(), NOUGHT);
                    int best = -1;
                    int least = 9999;
                    for (int kind = 0; kind < 6; kind++) {
                        Who q = new Who(kind, p.land, p.parts, p.favourite);
                        int far = his.stream().mapToInt(e -> unlike(e.drawn, drawing(q, e.word))).sum();
                        if (far < least) {
                            least = far;
                            best = kind;
                        }
                    }
                    tell(least);
                    return best;
                }
                case "guesser": {
                    needPlayer(a[0]);
                    Who p = players.get(a[0]);
                    List<Page> his = pages.stream().filter(e -> e.guess && e.who == a[0]).toList();
                    refuse(his.size() > 8, SPENT);
                    find(his.isEmpty(), NOUGHT);
                    List<Fraction> all = new ArrayList<>();
                    Fraction sum = Fraction.of(0, 1);
                    int best = 0;
                    for (int kind = 0; kind < 6; kind++) {
                        Who q = new Who(kind, p.land, p.parts, p.favourite);
                        Fraction product = Fraction.of(1, 1);
                        for (Page e : his) {
                            Who by = e.by == NONE ? null : players.get(e.by);
                            product = product.times(Fraction.of(sharesOf(q, e.drawn, by).get(e.word), 24));
                        }
                        all.add(product);
                        sum = sum.plus(product);
                        if (product.compare(all.get(best)) > 0) {
                            best = kind;
                        }
                    }
                    find(sum.up().signum() == 0, NOUGHT);
                    told = all.get(best).by(sum);
                    return best;
                }
                case "machine": {
                    needRow(a[0]);
                    List<Integer> drawn = drawnRow(a[0]);
                    find(drawings().isEmpty(), NOUGHT);
                    Page e = nearest(drawings(), drawn);
                    tell(unlike(e.drawn, drawn));
                    return e.word;
                }
                case "held": {
                    int n = drawings().size();
                    find(n < 2, NOUGHT);
                    int right = 0;
                    for (int i = 0; i < n; i++) {
                        List<Page> others = drawings();
                        Page e = others.remove(i);
                        right += nearest(others, e.drawn).word == e.word ? 1 : 0;
                    }
                    tell(n);
                    return right;
                }
                default:
                    return answerSigns(name, a);
            }
        }

        List<Integer> signOf(int p, int q, int word, int weeks) {
            List<Integer> now = drawing(players.get(p), word);
            if (weeks == 0) {
                return now;
            }
            now = signOf(p, q, word, weeks - 1);
            if (now.size() == 1) {
                return now;
            }
            List<Integer> less = new ArrayList<>(now.subList(0, now.size() - 1));
            return sharesOf(players.get(q), less, players.get(p)).get(word) >= 12 ? less : now;
        }

        int answerSigns(String name, int[] a) {
            switch (name) {
                case "sign": {
                    needPlayer(a[0]);
                    needPlayer(a[1]);
                    bad(a[0] == a[1]);
                    needWord(a[2]);
                    bad(!in(a[3], 0, 9));
                    needRow(a[4]);
                    rows.set(a[4], signOf(a[0], a[1], a[2], a[3]));
                    return rows.get(a[4]).size();
                }
                case "stranger": {
                    needPlayer(a[0]);
                    needPlayer(a[1]);
                    needWord(a[2]);
                    needPlayer(a[3]);
                    bad(new TreeSet<>(List.of(a[0], a[1])).size() < 2 || a[3] == a[0] || a[3] == a[1]);
                    for (int week = 0; week <= 9; week++) {
                        int word = greatest(sharesOf(players.get(a[3]), signOf(a[0], a[1], a[2], week), null));
                        if (word != a[2]) {
                            tell(word);
                            return week;
                        }
                    }
                    return NONE;
                }
                case "image": {
                    needRow(a[0]);
                    List<Integer> image = new ArrayList<>();
                    for (Who p : players) {
                        image.add(Integer.parseInt("" + p.kind + p.land + p.parts + p.favourite));
                    }
                    rows.set(a[0], image);
                    return image.size();
                }
                case "on": {
                    needRow(a[0]);
                    List<Integer> image = rows.get(a[0]);
                    find(image == null, NOTHING);
                    find(image.size() > 8, SIZE);
                    List<Who> seated = new ArrayList<>();
                    for (int v : image) {
                        find(!in(v, 0, 9999), UNLIKE);
                        String s = String.format("%04d", v);
                        Who p = new Who(s.charAt(0) - '0', s.charAt(1) - '0', s.charAt(2) - '0', s.charAt(3) - '0');
                        find(!in(p.kind, 0, 5) || !in(p.land, 0, 1) || !in(p.parts, 1, 6), UNLIKE);
                        find(!counts(p.land) || !in(p.favourite, 0, words() - 1), UNLIKE);
                        seated.add(p);
                    }
                    players = seated;
                    pages.clear();
                    return players.size();
                }
                case "asked":
                    return asked;
                case "count": {
                    bad(!in(a[0], 0, 7));
                    return countOf(a[0]);
                }
                case "finding":
                    return finding;
                case "findings": {
                    bad(!in(a[0], 1, 5));
                    return found[a[0]];
                }
                default:
                    throw new IllegalStateException(name);
            }
        }

        int countOf(int what) {
            return new int[] {words(), (counts(0) && words() > 0 ? 1 : 0) + (counts(1) ? 1 : 0), players.size(),
                (int) players.stream().filter(Who::sloppy).count(), pages.size(),
                (int) pages.stream().filter(Page::guess).count(),
                (int) rows.stream().filter(r -> r != null).count(),
                (int) texts.stream().filter(t -> t != null).count()}[what];
        }

        long digest() {
            List<Integer> all = new ArrayList<>();
            for (int what = 0; what < 8; what++) {
                all.add(countOf(what));
            }
            for (List<int[]> box : boxes) {
                all.add(box == null ? -1 : box.size());
                if (box != null) {
                    box.forEach(figures -> Arrays.stream(figures).forEach(all::add));
                }
            }
            players.forEach(p -> all.addAll(List.of(p.kind, p.land, p.parts, p.favourite)));
            for (Page e : pages) {
                for (int what = 0; what < 5; what++) {
                    all.add(toldOf(e, what));
                }
            }
            for (List<List<Integer>> sheets : List.of(rows, texts)) {
                for (List<Integer> sheet : sheets) {
                    all.add(sheet == null ? -1 : sheet.size());
                    all.addAll(sheet == null ? List.of() : sheet);
                }
            }
            long h = 17;
            for (int v : all) {
                h = 31 * h + v;
            }
            return h;
        }
    }

    /** Makes calls, mostly such as are not refused, so that they come far. */
    static final class Chance {
        final Random random;
        final boolean wild;

        Chance(long seed) {
            random = new Random(seed);
            wild = random.nextInt(6) == 0;
        }

        int upTo(int high) {
            if (random.nextInt(wild ? 8 : 60) == 0) {
                int[] odd = {-1, -2, -9, 6, 7, 8, 9, 10, 11, 40, 41, 99, 100, 120, 121, Integer.MIN_VALUE,
                    Integer.MAX_VALUE, random.nextInt()};
                return odd[random.nextInt(odd.length)];
            }
            return random.nextInt(Math.max(1, high + 1));
        }

        int[] each(int... high) {
            int[] a = new int[high.length];
            for (int i = 0; i < a.length; i++) {
                a[i] = upTo(high[i]);
            }
            return a;
        }

        int[] args(String name, Model m) {
            int w = Math.max(0, m.words() - 1);
            int p = Math.max(0, m.players.size() - 1);
            int by = random.nextInt(3) == 0 ? NONE : upTo(p);
            switch (name) {
                case "row":
                    return each(5, random.nextInt(9));
                case "lay":
                    return new int[] {upTo(5), upTo(7), random.nextInt(20) == 0 ? random.nextInt() : upTo(9)};
                case "at":
                    return each(5, 6);
                case "tear": case "mean": case "machine": case "image": case "on": case "most": case "land":
                    return each(5);
                case "copy":
                    return each(5, 3, 5, 3, 4);
                case "text":
                    return each(3, 100);
                case "put":
                    return each(3, 60, 127);
                case "fault":
                    return each(3);
                case "box":
                    return each(1, 3);
                case "usual":
                    return each(1, w, 9);
                case "player":
                    return new int[] {upTo(5), upTo(1), 1 + upTo(5), upTo(w)};
                case "about":
                    return each(p, 3);
                case "mark":
                    return new int[] {upTo(p), 1 + upTo(4)};
                case "draws":
                    return each(p, w, 5);
                case "guess":
                    return new int[] {upTo(p), upTo(5), by, upTo(5)};
                case "step":
                    return each(p, p, w, 5);
                case "comes": case "was":
                    return each(5, w, w);
                case "keeps":
                    int b = 1 + upTo(98);
                    return new int[] {upTo(5), 1 + upTo(b <= 0 ? 1 : b - 1), b};
                case "off":
                    return each(5, w, w, 3);
                case "kept":
                    return each(5, 5);
                case "seats":
                    return each(5, 5, 5);
                case "parts":
                    return new int[] {upTo(p), upTo(w), 1 + upTo(5)};
                case "few":
                    return new int[] {upTo(p), upTo(w), 1 + upTo(23)};
                case "soon":
                    return each(p, w, 5, 5);
                case "common":
                    return new int[] {upTo(w), 1 + upTo(8)};
                case "leaf":
                    return each(p, w, 5);
                case "guessed":
                    return new int[] {upTo(p), upTo(5), by, upTo(w)};
                case "told":
                    return each(Math.max(0, m.pages.size() - 1), 4);
                case "back":
                    return new int[] {random.nextInt(3) == 0 ? upTo(m.pages.size()) : m.pages.size()};
                case "hand": case "guesser":
                    return each(p);
                case "sign":
                    return each(p, p, w, 9, 5);
                case "stranger":
                    return each(p, p, w, p);
                case "count":
                    return each(7);
                case "findings":
                    return new int[] {1 + upTo(4)};
                default:
                    return new int[0];
            }
        }
    }

    private static long ask(PadRound x, String name, int[] a) throws ReflectiveOperationException {
        Class<?>[] types = new Class<?>[a.length];
        Object[] args = new Object[a.length];
        for (int i = 0; i < a.length; i++) {
            types[i] = int.class;
            args[i] = a[i];
        }
        return ((Number) PadRound.class.getMethod(name, types).invoke(x, args)).longValue();
    }

    private static final int[] SEEN = new int[4 * NAMES.length];

    private static void both(long seed, PadRound x, Model m, String name, int... a) throws Exception {
        long got = ask(x, name, a);
        long want;
        switch (name) {
            case "upper":
                want = m.told.up().longValueExact();
                break;
            case "lower":
                want = m.told.low().longValueExact();
                break;
            case "digest":
                want = m.digest();
                break;
            default:
                want = m.call(name, a);
        }
        boolean same = got == want && x.asked() == m.asked && x.finding() == m.finding
                && x.upper() == m.told.up().longValueExact() && x.lower() == m.told.low().longValueExact()
                && x.digest() == m.digest();
        if (!same) {
            System.out.println("seed " + seed + ": " + name + Arrays.toString(a) + " answered " + got + ", due is " + want
                    + "; asked " + x.asked() + ", due " + m.asked + "; finding " + x.finding() + ", due " + m.finding
                    + "; " + x.upper() + " by " + x.lower() + ", due " + m.told + "; rows " + m.rows + " players "
                    + m.players);
            System.exit(1);
        }
        int at = Arrays.asList(NAMES).indexOf(name);
        SEEN[at * 4 + (got >= 0 ? 0 : got == -1 ? 1 : got == -3 ? 2 : 3)]++;
    }

    private static String boxText(Random random, int words) {
        StringBuilder s = new StringBuilder(" ".repeat(random.nextInt(2)));
        for (int w = 0; w < words; w++) {
            s.append('w');
            int dense = random.nextInt(3);
            for (int i = 0; i < 10; i++) {
                boolean none = dense == 0 ? random.nextInt(4) > 0 : dense == 1 && random.nextBoolean();
                s.append(none ? 0 : random.nextInt(10));
            }
            s.append(" ".repeat(random.nextInt(3) == 0 ? 1 : 0));
        }
        int spoil = random.nextInt(12);
        if (spoil == 0) {
            s.setCharAt(random.nextInt(s.length()), "w0 19a/:".charAt(random.nextInt(8)));
        } else if (spoil == 1) {
            s.setLength(random.nextInt(s.length()));
        }
        return s.toString();
    }

    private static void writeBox(long seed, PadRound x, Model m, Random random, int land, int words) throws Exception {
        String s = boxText(random, words);
        int t = random.nextInt(4);
        both(seed, x, m, "text", t, s.length());
        for (int i = 0; i < s.length(); i++) {
            // Quietly: looking at the whole state after each letter takes too long.
            x.put(t, i, s.charAt(i));
            m.call("put", new int[] {t, i, s.charAt(i)});
        }
        both(seed, x, m, "fault", t);
        both(seed, x, m, "box", land, t);
    }

    /** A ROW of unlike numbers below a bound, or sometimes not. */
    private static int writeRow(long seed, PadRound x, Model m, Random random, int size, int bound) throws Exception {
        List<Integer> left = new ArrayList<>();
        for (int v = 0; v < bound; v++) {
            left.add(v);
        }
        int r = random.nextInt(6);
        both(seed, x, m, "row", r, size);
        for (int i = 0; i < size; i++) {
            boolean odd = left.isEmpty() || random.nextInt(40) == 0;
            int v = odd ? random.nextInt(12) - 1 : left.remove(random.nextInt(left.size()));
            both(seed, x, m, "lay", r, i, v);
        }
        return r;
    }

    private static void table(long seed, PadRound x, Model m, Random random) throws Exception {
        int size = 2 * random.nextInt(random.nextInt(10) == 0 ? 6 : 4);
        int r = writeRow(seed, x, m, random, size, m.players.size());
        int w = Math.max(1, m.words());
        int one = random.nextInt(w);
        int other = random.nextInt(w);
        both(seed, x, m, "comes", r, one, other);
        both(seed, x, m, "was", r, one, other);
        both(seed, x, m, "off", r, one, other, random.nextInt(4));
        both(seed, x, m, "most", r);
        both(seed, x, m, "keeps", r, 1 + random.nextInt(12), 12 * (1 + random.nextInt(8)));
    }

    private static void drawn(long seed, PadRound x, Model m, Random random) throws Exception {
        int r = writeRow(seed, x, m, random, random.nextInt(12) == 0 ? 7 : random.nextInt(7), 10);
        int p = random.nextInt(Math.max(1, m.players.size()));
        int by = random.nextInt(1 + m.players.size()) - 1;
        int w = random.nextInt(Math.max(1, m.words()));
        both(seed, x, m, "machine", r);
        both(seed, x, m, "land", r);
        both(seed, x, m, "guess", p, r, by < 0 ? NONE : by, 5 - r);
        both(seed, x, m, "soon", p, w, r, 5 - r);
        if (random.nextBoolean()) {
            both(seed, x, m, "leaf", p, w, r);
        } else {
            both(seed, x, m, "guessed", random.nextBoolean() ? 0 : p, r, by < 0 ? NONE : by, w);
        }
        both(seed, x, m, "hand", p);
        both(seed, x, m, "guesser", random.nextBoolean() ? 0 : p);
        both(seed, x, m, "held");
    }

    private static void images(long seed, PadRound x, Model m, Random random) throws Exception {
        int r = random.nextInt(6);
        both(seed, x, m, "image", r);
        if (random.nextInt(4) == 0) {
            int[] odd = {6010, 210, 110, 70, 0, 19, 12, 10, 4061, 5161, -10, -1, 10010};
            both(seed, x, m, "lay", r, random.nextInt(8), odd[random.nextInt(odd.length)]);
        }
        both(seed, x, m, "on", r);
    }

    private static void pads(long seed, PadRound x, Model m, Random random) throws Exception {
        int n = 2 * (1 + random.nextInt(random.nextInt(6) == 0 ? 3 : 2));
        int r = random.nextInt(5);
        List<Integer> left = new ArrayList<>(List.of(0, 1, 2, 3, 4, 5, 6, 7));
        both(seed, x, m, "row", r, n);
        both(seed, x, m, "row", r + 1, n);
        for (int i = 0; i < n; i++) {
            both(seed, x, m, "lay", r, i, left.remove(random.nextInt(Math.max(1, Math.min(left.size(),
                    m.players.size() - i)))));
            both(seed, x, m, "lay", r + 1, i, random.nextInt(Math.max(1, m.words())));
        }
        both(seed, x, m, "kept", r, r + 1);
        both(seed, x, m, "seats", r, r + 1, random.nextInt(6));
    }

    private static void run(long seed, int calls) throws Exception {
        Chance chance = new Chance(seed);
        Random random = chance.random;
        PadRound x = new PadRound();
        Model m = new Model();
        int words = 1 + random.nextInt(random.nextInt(8) == 0 ? 8 : 4);
        if (random.nextInt(20) > 0) {
            writeBox(seed, x, m, random, 0, words);
            if (random.nextInt(6) > 0) {
                writeBox(seed, x, m, random, 1, random.nextInt(8) == 0 ? 1 + random.nextInt(8) : words);
            }
        }
        int players = random.nextInt(9);
        for (int p = 0; p < players; p++) {
            both(seed, x, m, "player", chance.args("player", m));
        }
        for (int i = 0; i < calls; i++) {
            int what = random.nextInt(12);
            if (what == 0) {
                drawn(seed, x, m, random);
            } else if (what == 1) {
                table(seed, x, m, random);
            } else if (what == 3 && random.nextInt(8) == 0) {
                images(seed, x, m, random);
            } else if (what == 2 && m.players.size() > 1 && m.words() < 5) {
                pads(seed, x, m, random);
            } else {
                String name = NAMES[random.nextInt(NAMES.length)];
                boolean often = !List.of("box", "text", "on", "back").contains(name);
                if (often || random.nextInt(10) == 0) {
                    both(seed, x, m, name, chance.args(name, m));
                }
            }
        }
    }

    public static void main(String[] args) throws Exception {
        int runs = args.length > 0 ? Integer.parseInt(args[0]) : RUNS;
        long first = args.length > 1 ? Long.parseLong(args[1]) : 1;
        for (long seed = first; seed < first + runs; seed++) {
            run(seed, CALLS);
        }
        if (args.length > 2) {
            for (int i = 0; i < NAMES.length; i++) {
                System.out.println(NAMES[i] + ": answered " + SEEN[i * 4] + ", BAD " + SEEN[i * 4 + 1] + ", FINDING "
                        + SEEN[i * 4 + 2] + ", others " + SEEN[i * 4 + 3]);
            }
        }
        System.out.println(runs + " runs by chance answer as the model does");
    }
}
