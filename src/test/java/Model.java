import java.math.BigInteger;
import java.util.ArrayList;
import java.util.List;

/** The document once more, in its plainest form and with Java's library: what each call answers is due of the class. */
final class Model {
    private static final int NONE = -1000000, BAD = -1000001, STATE = -1000002, FULL = -1000003;

    private static final class Tree {
        int kind, place, high, age;

        Tree(int kind, int place, int high, int age) {
            this.kind = kind;
            this.place = place;
            this.high = high;
            this.age = age;
        }
    }

    private static final class House {
        int place, had, moved;

        House(int place, int had, int moved) {
            this.place = place;
            this.had = had;
            this.moved = moved;
        }
    }

    private static final class Land {
        int slope, winter, year;
        List<Tree> trees = new ArrayList<>();
        List<House> houses = new ArrayList<>();

        Land copy() {
            Land c = new Land();
            c.slope = slope;
            c.winter = winter;
            c.year = year;
            for (Tree t : trees) {
                c.trees.add(new Tree(t.kind, t.place, t.high, t.age));
            }
            for (House h : houses) {
                c.houses.add(new House(h.place, h.had, h.moved));
            }
            return c;
        }

        Tree treeAt(int p) {
            return trees.stream().filter(t -> t.place == p).findFirst().orElse(null);
        }

        House houseAt(int p) {
            return houses.stream().filter(h -> h.place == p).findFirst().orElse(null);
        }

        boolean dark(int p, int season) {
            int falls = 3 + winter * season - slope;
            if (falls < 1) {
                falls = 1;
            }
            for (Tree t : trees) {
                if (t.place < p && t.high > (p - t.place) * falls) {
                    return true;
                }
            }
            return false;
        }

        int light(int p) {
            int n = 0;
            for (int k = 0; k < 4; k++) {
                n += dark(p, k) ? 0 : 1;
            }
            return n;
        }

        /** The house that MOVED, or null. */
        House pass() {
            House least = null;
            for (House h : houses) {
                h.had += light(h.place);
                if (least == null || light(h.place) < light(least.place)) {
                    least = h;
                }
            }
            int to = -1;
            for (int p = 11; p >= 0; p--) {
                if (houseAt(p) == null && (to < 0 || light(p) >= light(to))) {
                    to = p;
                }
            }
            House moved = null;
            if (least != null && light(to) > light(least.place)) {
                least.place = to;
                least.moved++;
                moved = least;
            }
            grow();
            year++;
            return moved;
        }

        private void grow() {
            List<Tree> lit = new ArrayList<>();
            for (Tree t : trees) {
                if (light(t.place) > 0) {
                    lit.add(t);
                }
            }
            for (Tree t : trees) {
                int by = t.kind == 1 ? 2 : t.kind == 2 ? (t.age >= 20 ? 1 : 2) : t.kind == 3 ? (lit.contains(t) ? 2 : 0)
                        : t.kind == 4 ? 1 : 0;
                int bound = t.kind == 4 ? 8 : 60;
                for (int i = 0; i < by && t.high < bound; i++) {
                    t.high++;
                }
                t.age++;
            }
        }

        Land after(int d) {
            Land c = copy();
            for (int i = 0; i < d; i++) {
                c.pass();
            }
            return c;
        }

        Land without(int felled) {
            Land c = copy();
            for (int t = c.trees.size() - 1; t >= 0; t--) {
                if ((felled & 1 << t) != 0) {
                    c.trees.remove(t);
                }
            }
            return c;
        }
    }

    private Land land = null;
    private final List<Land> past = new ArrayList<>();
    private final Land[] images = new Land[2];
    private final int[][] rows = new int[8][];
    private final int[] lanes = new int[8];
    private final StringBuilder tape = new StringBuilder();
    private final List<Integer> trace = new ArrayList<>();
    private int fault = 0;
    private int status = 0;

    private static boolean within(int v, int least, int most) {
        return v >= least && v <= most;
    }

    private int trees() {
        return land == null ? 0 : land.trees.size();
    }

    private int houses() {
        return land == null ? 0 : land.houses.size();
    }

    private int found(int n) {
        status = n;
        return -1000010 - n;
    }

    private void act() {
        past.add(land.copy());
        if (past.size() > 24) {
            past.remove(0);
        }
    }

    int answer(Call c) {
        int[] a = c.a;
        for (Face f : FACES) {
            if (f.name.equals(c.name)) {
                if (f.noHillAheadOfBad && land == null) {
                    return STATE;
                }
                for (int i = 0; i < a.length; i++) {
                    if (!within(a[i], f.numbers[i].least, f.numbers[i].most(trees(), houses()))) {
                        return BAD;
                    }
                }
            }
        }
        switch (c.name) {
            case "row": return row(a[0], a[1], a[2]);
            case "set": return set(a[0], a[1], a[2]);
            case "copy": return copy(a[0], a[1], a[2], a[3], a[4]);
            case "drop": return drop(a[0]);
            case "feed": return feed(a[0]);
            case "hill": return hill();
            case "fault": return fault;
            case "years": return years(a[0]);
            case "plant": return plant(a[0], a[1]);
            case "fell": act(); land.trees.remove(a[0]); return trees();
            case "carry": return carry(a[0], a[1]);
            case "undo": return undo();
            case "tree": return tree(land.trees.get(a[0]), a[1]);
            case "house": return house(land.houses.get(a[0]), a[1]);
            case "place": return place(a[0], a[1]);
            default: return foretold(c.name, a);
        }
    }

    private static final List<Face> FACES = Face.all();

    private int foretold(String name, int[] a) {
        switch (name) {
            case "light": return land.after(a[1]).light(a[0]);
            case "lives": return house(land.after(a[1]).houses.get(a[0]), a[2]);
            case "next": return next(a[0]);
            case "best": return best(a[0], a[1], a[2]);
            case "toFell": return toFell(a[0], a[1], a[2], a[3]);
            case "seen": return seen(a[0], a[1]);
            case "planted": return planted(a[0], a[1], a[2], a[3]);
            case "hidden": return hidden(a[0], a[1], a[2], a[3], a[4]);
            case "storms": return storms(a[0], a[1], a[2], a[3], a[4]);
            case "image": return image(a[0]);
            case "restore": return restore(a[0]);
            case "kind": return land.trees.get(a[0]).kind;
            case "as": return as(a[0], a[1]);
            case "ask": trace.clear(); return a[1] == 0 ? size(a[0]) : mark(a[0]);
            case "trace": return a[0] >= 0 && a[0] < Math.min(16, trace.size()) ? trace.get(a[0]) : NONE;
            case "count": return count(a[0]);
            case "status": return status;
            default: throw new IllegalArgumentException(name);
        }
    }

    // ---- rows

    private int row(int r, int lane, int n) {
        if (n < 0) {
            return found(4);
        }
        rows[r] = new int[n];
        lanes[r] = lane;
        status = 0;
        return n;
    }

    private int set(int r, int i, int v) {
        if (rows[r] == null) {
            return found(1);
        }
        if (!within(i, 0, rows[r].length - 1)) {
            return found(2);
        }
        int bits = 8 << lanes[r];
        rows[r][i] = v << 32 - bits >> 32 - bits;
        status = 0;
        return rows[r][i];
    }

    private int copy(int a, int i, int b, int j, int n) {
        if (rows[a] == null || rows[b] == null) {
            return found(1);
        }
        if (lanes[a] != lanes[b]) {
            return found(5);
        }
        if (i < 0 || j < 0 || n < 0 || (long) i + n > rows[a].length || (long) j + n > rows[b].length) {
            return found(2);
        }
        int[] ahead = rows[a].clone();
        for (int k = 0; k < n; k++) {
            rows[b][j + k] = ahead[i + k];
        }
        status = 0;
        return n;
    }

    private int drop(int r) {
        if (rows[r] == null) {
            return found(1);
        }
        int n = rows[r].length;
        rows[r] = null;
        status = 0;
        return n;
    }

    // ---- hills, acts

    private int feed(int letter) {
        if (tape.length() == 120) {
            return FULL;
        }
        tape.append((char) letter);
        return tape.length();
    }

    private static final String SORTS = "folbm";

    /** What is expected at each step of a text: a sign or a letter by itself; S, W, P, H, A, Q for numbers; T, V. */
    private static final String STEPS = "hS,W;T" + "P,H,A;T" + "Q;V";

    private int hill() {
        String text = tape.toString();
        tape.setLength(0);
        Land read = new Land();
        Tree tree = null;
        int at = 0;
        int step = 0;
        while (true) {
            int end = at;
            while (end < text.length() && Character.digit(text.charAt(end), 10) >= 0 && text.charAt(end) < 128) {
                end++;
            }
            boolean number = end == at + 1 || end == at + 2;
            int v = number ? Integer.parseInt(text.substring(at, end)) : -1;
            char letter = at == text.length() ? '.' : text.charAt(at);
            boolean last = at == text.length();
            char want = STEPS.charAt(step);
            int wrong = 0;
            switch (want) {
                case 'S': wrong = !number ? 1 : v > 4 ? 2 : 0; read.slope = v; break;
                case 'W': wrong = !number ? 1 : v > 2 ? 2 : 0; read.winter = v; break;
                case 'P': wrong = !number ? 1 : v > 11 || read.treeAt(v) != null ? 2 : 0; tree.place = v; break;
                case 'H': wrong = !number ? 1 : v > 30 ? 2 : 0; tree.high = v; break;
                case 'A': wrong = !number ? 1 : v > 30 ? 2 : 0; tree.age = v; break;
                case 'Q': wrong = !number ? 1 : v > 11 || read.houseAt(v) != null ? 2 : 0; break;
                case 'T':
                case 'V':
                    boolean isTree = !last && want == 'T' && SORTS.indexOf(letter) >= 0;
                    boolean isHouse = !last && letter == 'v';
                    wrong = last || isTree && read.trees.size() < 6 || isHouse && read.houses.size() < 4 ? 0
                            : isTree || isHouse ? 3 : 1;
                    if (last) {
                        return settle(read);
                    }
                    tree = new Tree(SORTS.indexOf(letter) + 1, -1, 0, 0);
                    step = isTree ? 5 : 12;
                    break;
                default: wrong = last || letter != want ? 1 : 0;
            }
            if (wrong != 0) {
                fault = wrong;
                return -1000100 - at;
            }
            if (want == 'A') {
                read.trees.add(tree);
            }
            if (want == 'Q') {
                read.houses.add(new House(v, 0, 0));
            }
            step++;
            at = number ? end : at + 1;
        }
    }

    private int settle(Land read) {
        land = read;
        past.clear();
        return land.houses.size();
    }

    private int years(int n) {
        if (land.year + n > 999) {
            return FULL;
        }
        int moved = 0;
        for (int i = 0; i < n; i++) {
            act();
            moved += land.pass() == null ? 0 : 1;
        }
        return moved;
    }

    private int plant(int p, int kind) {
        if (land.treeAt(p) != null) {
            return STATE;
        }
        if (trees() == 6) {
            return FULL;
        }
        act();
        land.trees.add(new Tree(kind, p, 0, 0));
        return trees() - 1;
    }

    private int carry(int h, int p) {
        if (land.houseAt(p) != null) {
            return STATE;
        }
        act();
        int was = land.houses.get(h).place;
        land.houses.get(h).place = p;
        return was;
    }

    private int undo() {
        if (past.isEmpty()) {
            return STATE;
        }
        land = past.remove(past.size() - 1);
        return past.size();
    }

    private static int tree(Tree t, int what) {
        return what == 0 ? t.place : what == 1 ? t.high : t.age;
    }

    private static int house(House h, int what) {
        return what == 0 ? h.place : what == 1 ? h.had : h.moved;
    }

    private int place(int p, int what) {
        if (what == 0) {
            return land.light(p);
        }
        if (what == 1) {
            return land.treeAt(p) == null ? NONE : land.trees.indexOf(land.treeAt(p));
        }
        if (what == 2) {
            return land.houseAt(p) == null ? NONE : land.houses.indexOf(land.houseAt(p));
        }
        int bits = 0;
        for (int k = 0; k < 4; k++) {
            bits += land.dark(p, k) ? 1 << k : 0;
        }
        return bits;
    }

    // ---- foretold

    private int next(int what) {
        Land l = land.copy();
        for (int y = 1; y <= 30; y++) {
            House h = l.pass();
            if (h != null) {
                return what == 0 ? y : l.houses.indexOf(h);
            }
        }
        return NONE;
    }

    private int best(int h, int d, int what) {
        int where = -1;
        int most = -1;
        for (int p = 0; p < 12; p++) {
            Land l = land.copy();
            if (l.houseAt(p) == null || l.houseAt(p) == l.houses.get(h)) {
                l.houses.get(h).place = p;
                l.houses.get(h).had = 0;
                int had = l.after(d).houses.get(h).had;
                if (had > most) {
                    where = p;
                    most = had;
                }
            }
        }
        return what == 0 ? where : most;
    }

    private int toFell(int p, int v, int d, int what) {
        int which = -1;
        for (int felled = 0; felled < 1 << trees(); felled++) {
            if (land.without(felled).after(d).light(p) >= v
                    && (which < 0 || Integer.bitCount(felled) < Integer.bitCount(which))) {
                which = felled;
            }
        }
        return which < 0 ? NONE : what == 0 ? Integer.bitCount(which) : which;
    }

    private int seen(int r, int i) {
        if (rows[r] == null) {
            return found(1);
        }
        if (i < 0 || (long) i + 12 > rows[r].length) {
            return found(2);
        }
        status = 0;
        for (int y = 0; y <= 30; y++) {
            Land l = land.after(y);
            boolean like = true;
            for (int p = 0; p < 12; p++) {
                like &= l.light(p) == rows[r][i + p];
            }
            if (like) {
                return y;
            }
        }
        return NONE;
    }

    private int planted(int kind, int p, int v, int d) {
        int bits = 0;
        for (int q = 0; q < 12; q++) {
            if (land.treeAt(q) == null) {
                Land l = land.copy();
                l.trees.add(new Tree(kind, q, 0, 0));
                bits += l.after(d).light(p) == v ? 1 << q : 0;
            }
        }
        return bits;
    }

    private int hidden(int t, int p, int r, int i, int n) {
        if (rows[r] == null) {
            return found(1);
        }
        if (i < 0 || (long) i + n > rows[r].length) {
            return found(2);
        }
        status = 0;
        int bits = 0;
        for (int k = 1; k <= 5; k++) {
            Land l = land.copy();
            l.trees.get(t).kind = k;
            boolean like = true;
            for (int y = 0; y < n; y++) {
                like &= l.after(y).light(p) == rows[r][i + y];
            }
            bits += like ? 1 << k : 0;
        }
        return bits;
    }

    private int storms(int p, int v, int d, int c, int what) {
        BigInteger above = BigInteger.ZERO;
        for (int felled = 0; felled < 1 << trees(); felled++) {
            if (land.without(felled).after(d).light(p) >= v) {
                int down = Integer.bitCount(felled);
                above = above.add(BigInteger.valueOf(c).pow(down).multiply(BigInteger.valueOf(10 - c).pow(trees() - down)));
            }
        }
        BigInteger below = BigInteger.TEN.pow(trees());
        BigInteger common = above.gcd(below);
        return (what == 0 ? above : below).divide(common).intValue();
    }

    private int image(int k) {
        if (land == null) {
            return STATE;
        }
        images[k] = land.copy();
        return 1;
    }

    private int restore(int k) {
        if (images[k] == null) {
            return STATE;
        }
        land = images[k].copy();
        past.clear();
        return 1;
    }

    // ---- asked

    private static final String[] IS = {"0", "10", "210", "310", "40", "540"};

    private int as(int t, int kind) {
        if (IS[land.trees.get(t).kind].indexOf('0' + kind) < 0) {
            return found(3);
        }
        status = 0;
        return t;
    }

    private int size(int t) {
        switch (land.trees.get(t).kind) {
            case 2: return body12(t);
            case 4: return body13(t);
            case 5: return body14(t);
            default: return body11(t);
        }
    }

    private int mark(int t) {
        switch (land.trees.get(t).kind) {
            case 1: return body21(t);
            case 2: trace.add(24); return 2 * body21(t);
            case 3: trace.add(22); return body21(t) - 1000;
            default: trace.add(23); return body20(t) - size(t);
        }
    }

    private int body10(int t) {
        trace.add(10);
        return land.trees.get(t).place;
    }

    private int body11(int t) {
        trace.add(11);
        int given = body10(t);
        return given + mark(t);
    }

    private int body12(int t) {
        trace.add(12);
        return 0 - body11(t);
    }

    private int body13(int t) {
        trace.add(13);
        return body10(t) - 100;
    }

    private int body14(int t) {
        trace.add(14);
        return 2 * body13(t);
    }

    private int body20(int t) {
        trace.add(20);
        return t;
    }

    private int body21(int t) {
        trace.add(21);
        return body20(t) + land.trees.get(t).high;
    }

    private int count(int what) {
        int n = 0;
        switch (what) {
            case 0:
                for (int[] r : rows) {
                    n += r == null ? 0 : 1;
                }
                return n;
            case 1: return trees();
            case 2: return houses();
            case 3: return land == null ? 0 : land.year;
            case 4:
                for (int h = 0; h < houses(); h++) {
                    n += land.houses.get(h).moved;
                }
                return n;
            case 5: return past.size();
            default: return tape.length();
        }
    }
}
