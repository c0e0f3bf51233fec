import java.util.Random;

/** What is foretold against what really comes by acts on chance hills; and wild numbers, for which no call may throw. */
public final class MirrorTest {
    private static final int NONE = SunHouses.NONE;
    private static final String SORTS = "folbm";

    private final Random chance;
    private SunHouses x;
    private String text;
    private int calls;

    private MirrorTest(long seed) {
        chance = new Random(seed);
    }

    public static void main(String[] args) {
        for (int seed = 0; seed < 150; seed++) {
            MirrorTest run = new MirrorTest(seed);
            run.foretells();
            run.callsWildly();
        }
        Due.end();
    }

    private String hillText() {
        StringBuilder s = new StringBuilder();
        s.append('h').append(chance.nextInt(5)).append(',').append(chance.nextInt(3)).append(';');
        boolean[] taken = new boolean[12];
        for (int t = chance.nextInt(7); t > 0; t--) {
            s.append(SORTS.charAt(chance.nextInt(5))).append(free(taken)).append(',');
            s.append(chance.nextInt(chance.nextBoolean() ? 31 : 6)).append(',').append(chance.nextInt(31)).append(';');
        }
        boolean[] homes = new boolean[12];
        for (int h = chance.nextInt(5); h > 0; h--) {
            s.append('v').append(free(homes)).append(';');
        }
        return s.toString();
    }

    private int free(boolean[] taken) {
        int p = chance.nextInt(12);
        while (taken[p]) {
            p = (p + 1) % 12;
        }
        taken[p] = true;
        return p;
    }

    /** A new object each time: the document promises nothing beyond 512 calls. */
    private SunHouses fresh(int years) {
        SunHouses y = Due.village(text);
        pass(y, years);
        return y;
    }

    private static int pass(SunHouses y, int years) {
        int moved = 0;
        for (int left = years; left > 0; left -= 20) {
            moved += y.years(Math.min(left, 20));
        }
        return moved;
    }

    private void foretells() {
        text = hillText();
        x = fresh(0);
        int past = chance.nextInt(6);
        pass(x, past);
        int d = chance.nextInt(31);
        lightAndLives(past, d);
        next(past);
        best(past, Math.max(1, d));
        fellAndStorms(past, d);
        planted(past, d);
        seenAndHidden(past);
    }

    private void lightAndLives(int past, int d) {
        SunHouses y = fresh(past + d);
        int[][] trees = treesOf(y);
        for (int p = 0; p < 12; p++) {
            Due.is(text + " light " + p + " in " + d, x.light(p, d), y.place(p, 0));
            Due.is(text + " by hand " + p, y.place(p, 3), shadeByHand(trees, p));
        }
        for (int h = 0; h < x.count(2); h++) {
            Due.is(text + " lives " + h, x.lives(h, d, 0), y.house(h, 0));
            Due.is(text + " had " + h, x.lives(h, d, 1), y.house(h, 1));
        }
    }

    /** Of each tree its PLACE and how high it is. */
    private static int[][] treesOf(SunHouses y) {
        int[][] trees = new int[y.count(1)][];
        for (int t = 0; t < trees.length; t++) {
            trees[t] = new int[] {y.tree(t, 0), y.tree(t, 1)};
        }
        return trees;
    }

    /** From the text's own law and where the trees are. */
    private int shadeByHand(int[][] trees, int p) {
        int slope = text.charAt(1) - '0';
        int winter = text.charAt(3) - '0';
        int shade = 0;
        for (int k = 0; k < 4; k++) {
            int falls = 3 + winter * k - slope;
            falls = falls < 1 ? 1 : falls;
            for (int[] tree : trees) {
                int further = p - tree[0];
                if (further >= 1 && tree[1] > further * falls) {
                    shade |= 1 << k;
                }
            }
        }
        return shade;
    }

    private void next(int past) {
        int when = NONE;
        int who = NONE;
        SunHouses y = fresh(past);
        for (int n = 1; n <= 30 && when == NONE; n++) {
            int[] before = new int[y.count(2)];
            for (int h = 0; h < before.length; h++) {
                before[h] = y.house(h, 2);
            }
            if (y.years(1) == 1) {
                when = n;
                for (int h = 0; h < before.length; h++) {
                    who = y.house(h, 2) > before[h] ? h : who;
                }
            }
        }
        Due.is(text + " next when", x.next(0), when);
        Due.is(text + " next who", x.next(1), who);
    }

    private void best(int past, int d) {
        int[] homes = new int[12];
        for (int p = 0; p < 12; p++) {
            homes[p] = x.place(p, 2);
        }
        for (int h = 0; h < x.count(2); h++) {
            int most = -1;
            int where = NONE;
            for (int p = 0; p < 12; p++) {
                if (homes[p] == NONE || homes[p] == h) {
                    SunHouses y = fresh(past);
                    if (y.house(h, 0) != p) {
                        y.carry(h, p);
                    }
                    int before = y.house(h, 1);
                    pass(y, d);
                    if (y.house(h, 1) - before > most) {
                        most = y.house(h, 1) - before;
                        where = p;
                    }
                }
            }
            Due.is(text + " best where " + h, x.best(h, d, 0), where);
            Due.is(text + " best how much " + h, x.best(h, d, 1), most);
        }
    }

    private void fellAndStorms(int past, int d) {
        int place = chance.nextInt(12);
        int v = chance.nextInt(5);
        int c = chance.nextInt(11);
        int trees = x.count(1);
        int fewest = NONE;
        double likely = 0;
        for (int felled = 0; felled < 1 << trees; felled++) {
            SunHouses y = fresh(past);
            double p = 1;
            for (int t = trees - 1; t >= 0; t--) {
                boolean falls = (felled >> t & 1) != 0;
                p *= falls ? c / 10.0 : 1 - c / 10.0;
                if (falls) {
                    y.fell(t);
                }
            }
            pass(y, d);
            if (y.place(place, 0) >= v) {
                likely += p;
                if (fewest == NONE || Integer.bitCount(felled) < Integer.bitCount(fewest)) {
                    fewest = felled;
                }
            }
        }
        Due.is(text + " toFell which", x.toFell(place, v, d, 1), fewest);
        Due.is(text + " toFell how many", x.toFell(place, v, d, 0), Integer.bitCount(fewest));
        int above = x.storms(place, v, d, c, 0);
        int below = x.storms(place, v, d, c, 1);
        Due.isTrue(text + " storms", Math.abs(likely - (double) above / below) < 1e-9);
        Due.isTrue(text + " in lowest terms", java.math.BigInteger.valueOf(above)
                .gcd(java.math.BigInteger.valueOf(below)).intValue() == 1);
    }

    private void planted(int past, int d) {
        int place = chance.nextInt(12);
        int v = chance.nextInt(5);
        if (x.count(1) == 6) {
            return;
        }
        for (int k = 1; k <= 5; k++) {
            int places = 0;
            for (int p = 0; p < 12; p++) {
                SunHouses y = fresh(past);
                if (y.plant(p, k) >= 0) {
                    pass(y, d);
                    places |= y.place(place, 0) == v ? 1 << p : 0;
                }
            }
            Due.is(text + " planted " + k, x.planted(k, place, v, d), places);
        }
    }

    private void seenAndHidden(int past) {
        int when = chance.nextInt(31);
        SunHouses y = fresh(past + when);
        x.row(0, 2, 12);
        for (int p = 0; p < 12; p++) {
            x.set(0, p, y.place(p, 0));
        }
        int first = x.seen(0, 0);
        Due.isTrue(text + " seen by then", first >= 0 && first <= when);
        for (int e = 0; e <= first; e++) {
            boolean like = true;
            SunHouses z = fresh(past + e);
            for (int p = 0; p < 12; p++) {
                like &= z.place(p, 0) == y.place(p, 0);
            }
            Due.isTrue(text + " seen first", like == (e == first));
        }
        hiddenKinds();
    }

    /** Each tree's light as the text would have it with another letter: that letter's KIND is among the answers. */
    private void hiddenKinds() {
        String told = text;
        SunHouses base = Due.village(told);
        for (int t = 0; t < base.count(1); t++) {
            int place = chance.nextInt(12);
            int n = 1 + chance.nextInt(16);
            int[][] lights = new int[6][n];
            for (int k = 1; k <= 5; k++) {
                SunHouses y = Due.village(withSort(told, t, k));
                for (int i = 0; i < n; i++) {
                    lights[k][i] = y.place(place, 0);
                    y.years(1);
                }
            }
            int like = 1 + chance.nextInt(5);
            int kinds = 0;
            for (int k = 1; k <= 5; k++) {
                kinds |= java.util.Arrays.equals(lights[k], lights[like]) ? 1 << k : 0;
            }
            SunHouses z = Due.village(told);
            Due.fill(z, 3, lights[like]);
            Due.is(told + " hidden " + t, z.hidden(t, place, 3, 0, n), kinds);
        }
    }

    private static String withSort(String told, int tree, int kind) {
        int at = 0;
        for (int n = 0; n <= tree; n++) {
            at = told.indexOf(';', at) + 1;
        }
        return told.substring(0, at) + SORTS.charAt(kind - 1) + told.substring(at + 1);
    }

    private int wild() {
        switch (chance.nextInt(12)) {
            case 0: return Integer.MIN_VALUE;
            case 1: return Integer.MAX_VALUE;
            case 2: return -1 - chance.nextInt(3);
            case 3: return chance.nextInt(300);
            case 4: return chance.nextInt(41);
            default: return chance.nextInt(chance.nextBoolean() ? 4 : 13);
        }
    }

    private void callsWildly() {
        x = new SunHouses();
        calls = 0;
        // room for one text more
        while (calls < 512 - 90) {
            int which = chance.nextInt(40);
            if (which >= 33) {
                String hill = hillText();
                for (int i = 0; i < hill.length(); i++) {
                    x.feed(chance.nextInt(200) == 0 ? chance.nextInt(256) : hill.charAt(i));
                    calls++;
                }
                x.hill();
            } else if (which < 17) {
                callFirst(which);
            } else {
                callSecond(which);
            }
            calls++;
        }
    }

    private int callFirst(int which) {
        switch (which) {
            case 0: return x.row(wild(), wild(), wild());
            case 1: return x.set(wild(), wild(), wild());
            case 2: return x.copy(wild(), wild(), wild(), wild(), wild());
            case 3: return x.drop(wild());
            case 4: return x.feed(wild());
            case 5: return chance.nextInt(9) == 0 ? x.hill() : x.undo();
            case 6: return x.fault();
            case 7: return x.years(wild());
            case 8: return x.plant(wild(), wild());
            case 9: return x.fell(wild());
            case 10: return x.carry(wild(), wild());
            case 11: return x.undo();
            case 12: return x.tree(wild(), wild());
            case 13: return x.house(wild(), wild());
            case 14: return x.place(wild(), wild());
            case 15: return x.light(wild(), wild());
            default: return x.lives(wild(), wild(), wild());
        }
    }

    private int callSecond(int which) {
        switch (which) {
            case 17: return x.next(wild());
            case 18: return x.best(wild(), wild(), wild());
            case 19: return x.toFell(wild(), wild(), wild(), wild());
            case 20: return x.seen(wild(), wild());
            case 21: return x.planted(wild(), wild(), wild(), wild());
            case 22: return x.hidden(wild(), wild(), wild(), wild(), wild());
            case 23: return x.storms(wild(), wild(), wild(), wild(), wild());
            case 24: return x.image(wild());
            case 25: return x.restore(wild());
            case 26: return x.kind(wild());
            case 27: return x.as(wild(), wild());
            case 28: return x.ask(wild(), wild());
            case 29: return x.trace(wild());
            case 30: return x.count(wild());
            default: return x.status();
        }
    }
}
