import java.util.ArrayList;
import java.util.List;

/** The boundary cases of "2 PLACES", "A YEAR" and "ACTS", and of promises 9 to 16, 26, 27 and 32. */
public final class HillBoundsTest {
    private static final int NONE = SunHouses.NONE, BAD = SunHouses.BAD, STATE = SunHouses.STATE, FULL = SunHouses.FULL;

    public static void main(String[] args) {
        sunFalls();
        shadesAreFurtherUp();
        tellsAllLights();
        growsToBounds();
        limesNeedLight();
        leastMovesFirst();
        movesForMoreAlone();
        movesToLeastOfMost();
        lightIsAddedAhead();
        endsWithYear999();
        plantsSix();
        fellsAny();
        carriesAnywhere();
        keeps24Acts();
        forgetsActs();
        imagesStay();
        counts();
        Due.end();
    }

    /** 3 and WINTER times k, less SLOPE, 1 at least: written out for each SLOPE and WINTER. */
    private static void sunFalls() {
        int[][] falls = {
            {3, 3, 3, 3}, {3, 4, 5, 6}, {3, 5, 7, 9},
            {2, 2, 2, 2}, {2, 3, 4, 5}, {2, 4, 6, 8},
            {1, 1, 1, 1}, {1, 2, 3, 4}, {1, 3, 5, 7},
            {1, 1, 1, 1}, {1, 1, 2, 3}, {1, 2, 4, 6},
            {1, 1, 1, 1}, {1, 1, 1, 2}, {1, 1, 3, 5}};
        for (int slope = 0; slope <= 4; slope++) {
            for (int winter = 0; winter <= 2; winter++) {
                int[] fall = falls[3 * slope + winter];
                for (int high = 0; high <= 30; high++) {
                    String text = "h" + slope + "," + winter + ";m0," + high + ",0;";
                    SunHouses x = Due.village(text);
                    for (int d = 0; d <= 11; d++) {
                        int shade = 0;
                        for (int k = 0; k < 4; k++) {
                            // exactly d times the fall is no SHADE yet
                            shade |= d > 0 && high >= d * fall[k] + 1 ? 1 << k : 0;
                        }
                        Due.is(text + " shade at " + d, x.place(d, 3), shade);
                        Due.is(text + " light at " + d, x.place(d, 0), 4 - Integer.bitCount(shade));
                    }
                }
            }
        }
    }

    /** Only what is 1 or more further up: neither the place itself nor one below. */
    private static void shadesAreFurtherUp() {
        for (int p = 0; p < 12; p++) {
            SunHouses x = Due.village("h4,0;m" + p + ",30,0;");
            for (int q = 0; q < 12; q++) {
                Due.is("a tree at " + p + ", shade at " + q, x.place(q, 3), q > p ? 15 : 0);
                Due.is("its light", x.light(q, 0), q > p ? 0 : 4);
            }
        }
        Due.is("no trees, no shade", Due.village("h4,0;v0;").place(11, 3), 0);
        Due.is("11 further, 11 high", Due.village("h2,0;m0,11,0;").place(11, 3), 0);
        Due.is("11 further, 12 high", Due.village("h2,0;m0,12,0;").place(11, 3), 15);
        Due.is("0 high", Due.village("h4,0;m0,0,0;").place(1, 3), 0);
        Due.is("1 high", Due.village("h4,0;m0,1,0;").place(1, 3), 0);
        Due.is("2 high", Due.village("h4,0;m0,2,0;").place(1, 3), 15);
    }

    /** LIGHT 0 to 4, and shades of several trees counted once. */
    private static void tellsAllLights() {
        // falls 2, 4, 6, 8
        SunHouses x = Due.village("h1,2;m0,30,0;v0;");
        int[] light = {4, 0, 0, 0, 1, 2, 2, 2, 3, 3, 3, 3};
        int[] shade = {0, 15, 15, 15, 7, 3, 3, 3, 1, 1, 1, 1};
        for (int p = 0; p < 12; p++) {
            Due.is("light at " + p, x.place(p, 0), light[p]);
            Due.is("shade at " + p, x.place(p, 3), shade[p]);
        }
        Due.is("by two trees", Due.village("h1,2;m0,30,0;m3,30,0;m10,3,0;").place(11, 3), 1);
        Due.is("by six trees", Due.village("h1,2;m0,30,0;m1,30,0;m2,30,0;m3,30,0;m4,30,0;m5,30,0;").place(6, 3), 15);
        Due.is("by the last of six", Due.village("h1,2;m0,0,0;m1,0,0;m2,0,0;m3,0,0;m4,0,0;m5,30,0;").place(6, 3), 15);
    }

    private static void grown(String text, int... highs) {
        SunHouses x = Due.village(text);
        int age = x.tree(x.count(1) - 1, 2);
        for (int n = 0; n < highs.length; n++) {
            Due.is(text + " high behind " + n, x.tree(x.count(1) - 1, 1), highs[n]);
            Due.is(text + " age behind " + n, x.tree(x.count(1) - 1, 2), age + n);
            x.years(1);
        }
    }

    private static void oldTree(String text, int years, int high, int more) {
        SunHouses x = Due.village(text);
        for (int n = 0; n < years; n++) {
            x.years(1);
        }
        Due.is(text + " high behind " + years, x.tree(0, 1), high);
        x.years(1);
        Due.is(text + " high one year more", x.tree(0, 1), more);
        x.years(20);
        Due.is(text + " high for all time", x.tree(0, 1), 60);
    }

    private static void growsToBounds() {
        grown("h0,0;f0,0,0;", 0, 2, 4, 6);
        grown("h0,0;o0,0,0;", 0, 2, 4, 6);
        grown("h0,0;l0,0,0;", 0, 2, 4, 6);
        grown("h0,0;b0,0,0;", 0, 1, 2, 3, 4, 5, 6, 7, 8, 8, 8);
        grown("h0,0;m0,0,0;", 0, 0, 0);
        grown("h0,0;b0,7,30;", 7, 8, 8);
        grown("h0,0;b0,8,30;", 8, 8, 8);
        grown("h0,0;b0,9,30;", 9, 9, 9);
        grown("h0,0;b0,30,30;", 30, 30, 30);
        grown("h0,0;m0,30,30;", 30, 30, 30);
        // AGE ahead: 18 and 19 grow by 2, 20 by 1
        grown("h0,0;o0,3,18;", 3, 5, 7, 8, 9);
        grown("h0,0;o0,3,19;", 3, 5, 6, 7);
        grown("h0,0;o0,3,20;", 3, 4, 5);
        grown("h0,0;o0,3,21;", 3, 4, 5);
        grown("h0,0;f0,3,20;", 3, 5, 7);
        grown("h0,0;l0,3,20;", 3, 5, 7);
        // 60 at most: from below it by 2, from 59 by what is left
        oldTree("h0,0;f0,30,0;", 14, 58, 60);
        oldTree("h0,0;f0,30,0;", 15, 60, 60);
        oldTree("h0,0;f0,29,0;", 15, 59, 60);
        oldTree("h0,0;l0,29,0;", 15, 59, 60);
        oldTree("h0,0;l0,28,0;", 15, 58, 60);
        oldTree("h0,0;o0,30,20;", 29, 59, 60);
        oldTree("h0,0;o0,30,20;", 30, 60, 60);
        // 19 years by 2 from 21: the oak is 59 behind them, and by 2 once more at AGE 19
        oldTree("h0,0;o0,21,0;", 19, 59, 60);
    }

    /** A lime stands still where LIGHT is 0 ahead of the growing of all; 1 is enough. */
    private static void limesNeedLight() {
        // falls 3, 4, 5, 6 at 1 further
        grown("h0,1;m0,6,0;l1,0,0;", 0, 2, 4);
        grown("h0,1;m0,7,0;l1,0,0;", 0, 0, 0);
        // the shade need not be one tree's: a lime at 2 with seasons 0 to 2 taken by one, 3 by another
        grown("h1,2;m0,13,0;m1,8,0;l2,0,0;", 0, 2, 4);
        grown("h1,2;m0,17,0;m1,0,0;l2,0,0;", 0, 0, 0);
        grown("h1,2;m0,16,0;m1,0,0;l2,0,0;", 0, 2, 4);
        // a fir becomes dark enough in this year: it counts ahead of the growing, whichever was told first
        grown("h0,0;f0,2,0;l1,0,0;", 0, 2, 2, 2);
        SunHouses x = Due.village("h0,0;l1,0,0;f0,2,0;");
        x.years(1);
        Due.is("lit ahead of the growing", x.tree(0, 1), 2);
        x.years(1);
        Due.is("dark then", x.tree(0, 1), 2);
        Due.is("it is older nonetheless", x.tree(0, 2), 2);
        // a lime at the lowest place is never dark
        grown("h4,0;m1,30,0;l0,0,0;", 0, 2, 4);
        // with light again it grows again
        SunHouses y = Due.village("h0,0;m0,30,0;l1,0,0;");
        y.years(3);
        Due.is("dark", y.tree(1, 1), 0);
        y.fell(0);
        y.years(1);
        Due.is("light", y.tree(0, 1), 2);
    }

    /** Of several that had least the first, wherever they are told; one with more waits. */
    private static void leastMovesFirst() {
        // falls 2, 4, 6, 8: LIGHT 4 0 0 0 1 2 2 2 3 3 3 3
        String hill = "h1,2;m0,30,0;";
        SunHouses x = Due.village(hill + "v8;v1;v3;v2;");
        Due.is("next of three in the dark", x.next(1), 1);
        Due.is("one a year", x.years(1), 1);
        Due.is("the first of them", x.house(1, 0), 0);
        Due.is("the second waits", x.house(2, 0), 3);
        Due.is("the third waits", x.house(3, 0), 2);
        Due.is("the next", x.next(1), 2);
        SunHouses y = Due.village(hill + "v4;v5;v1;");
        y.years(1);
        Due.is("0, though told last", y.house(2, 0), 0);
        Due.is("1 and 2 wait", y.count(4), 1);
        SunHouses z = Due.village(hill + "v5;v4;");
        Due.is("1 is less than 2", z.next(1), 1);
        SunHouses w = Due.village(hill + "v4;v5;");
        Due.is("1 is less than 2", w.next(1), 0);
    }

    /** "if that is more than it has": as much is not enough. */
    private static void movesForMoreAlone() {
        String hill = "h1,2;m0,30,0;";
        SunHouses x = Due.village(hill + "v0;v8;");
        Due.is("3 there, 3 here", x.years(1), 0);
        Due.is("it stays", x.house(1, 0), 8);
        SunHouses y = Due.village(hill + "v0;v7;");
        Due.is("3 there, 2 here", y.years(1), 1);
        Due.is("it moves", y.house(1, 0), 8);
        SunHouses z = Due.village(hill + "v1;v0;");
        z.carry(0, 11);
        Due.is("3 at the last place, 4 has a house", z.years(1), 0);
        // all of the four best are taken: the least has what is left
        SunHouses w = Due.village("h4,0;m0,30,0;v0;v11;");
        Due.is("dark everywhere but at 0", w.years(20), 0);
        Due.is("none next", w.next(0), NONE);
        Due.is("nobody without light, nobody moves", Due.village("h0,0;v0;v11;").next(1), NONE);
        Due.is("no houses", Due.village("h4,0;m0,30,0;").years(20), 0);
        // who has least keeps the others where they are, though one of these could have more
        SunHouses v = Due.village("h2,1;m0,30,0;v0;v10;v11;");
        Due.is("2 and 2, no more than 1 is free", v.years(5), 0);
    }

    private static void movesToLeastOfMost() {
        // LIGHT 4 0 0 0 1 2 2 2 3 3 3 3
        String hill = "h1,2;m0,30,0;";
        SunHouses x = Due.village(hill + "v0;v8;v1;");
        x.years(1);
        Due.is("the least of those with 3 that has no house", x.house(2, 0), 9);
        SunHouses y = Due.village(hill + "v0;v8;v9;v10;");
        Due.is("3 and 3, none has more", y.years(1), 0);
        y.carry(1, 7);
        y.carry(2, 8);
        y.carry(3, 9);
        y.years(1);
        Due.is("10 is the least that is free", y.house(1, 0), 10);
        SunHouses z = Due.village("h0,0;m10,30,0;v11;");
        z.years(1);
        Due.is("the lowest place", z.house(0, 0), 0);
        // the last place alone has more
        SunHouses w = Due.village("h2,0;m0,11,0;v0;v5;");
        w.years(1);
        Due.is("the highest place", w.house(1, 0), 11);
    }

    /** Each house has its LIGHT ahead of the move, and where it is then, not where it goes. */
    private static void lightIsAddedAhead() {
        SunHouses x = Due.village("h1,2;m0,30,0;v5;v8;v0;v1;");
        x.years(1);
        int[] had = {2, 3, 4, 0};
        for (int h = 0; h < 4; h++) {
            Due.is("had " + h, x.house(h, 1), had[h]);
        }
        Due.is("the one in the dark moved", x.house(3, 0), 9);
        Due.is("and lives(3, 1, 1) is what it had", x.lives(3, 0, 1), 0);
        x.years(1);
        Due.is("the second year", x.house(3, 1), 3);
        Due.is("the one at 5 moved then", x.house(0, 0), 10);
        Due.is("moved once", x.house(0, 2), 1);
        // the growing comes behind: the fir is 2 high in the year that comes, 4 in the one behind it
        SunHouses y = Due.village("h0,0;f0,2,0;v1;");
        y.years(1);
        Due.is("light ahead of growing", y.house(0, 1), 4);
        Due.is("none moved", y.count(4), 0);
        y.years(1);
        Due.is("dark in the second", y.house(0, 1), 4);
        Due.is("it moved", y.count(4), 1);
    }

    private static SunHouses inYear(int year) {
        SunHouses x = Due.village("h0,0;f3,2,1;v0;");
        for (int left = year; left > 0; left -= 20) {
            x.years(Math.min(left, 20));
        }
        Due.is("the year", x.count(3), year);
        return x;
    }

    /** YEAR 999 is the last: n years are done, or none of them. */
    private static void endsWithYear999() {
        for (int n = 1; n <= 20; n++) {
            Due.is(n + " years to 999", inYear(999 - n).years(n), 0);
            SunHouses x = inYear(1000 - n);
            Due.is(n + " years beyond 999", x.years(n), FULL);
            Due.is("none of them", x.count(3), 1000 - n);
            Due.is("no more light", x.house(0, 1), 4 * (1000 - n));
            Due.is("the fir is no older", x.tree(0, 2), 1001 - n);
            Due.is("one less fits, or none", x.years(Math.max(1, n - 1)), n > 1 ? 0 : FULL);
        }
        SunHouses x = inYear(999);
        Due.is("light behind the last year", x.light(4, 30), 0);
        Due.is("lives behind the last year", x.lives(0, 30, 1), 4 * 1029);
        Due.is("best behind the last year", x.best(0, 30, 1), 120);
        Due.is("next behind the last year", x.next(0), NONE);
        Due.is("toFell behind the last year", x.toFell(4, 4, 30, 0), 1);
        Due.is("a tree can be felled yet", x.fell(0), 0);
        Due.is("one planted", x.plant(11, 5), 0);
        Due.is("a house carried", x.carry(0, 11), 0);
        Due.is("an act undone", x.undo(), 23);
        Due.is("undone", x.undo(), 22);
        Due.is("undone", x.undo(), 21);
        Due.is("a year undone", x.undo(), 20);
        Due.is("the year 998", x.count(3), 998);
        Due.is("one year fits", x.years(1), 0);
        Due.is("no more", x.years(1), FULL);
        Due.tell(x, "h0,0;");
        Due.is("a hill read is in year 0", x.count(3), 0);
        Due.is("years go on", x.years(20), 0);
    }

    private static void plantsSix() {
        for (int told = 0; told <= 6; told++) {
            StringBuilder text = new StringBuilder("h0,0;");
            for (int t = 0; t < told; t++) {
                text.append('m').append(t).append(",0,0;");
            }
            SunHouses x = Due.village(text + "v11;");
            for (int t = told; t < 6; t++) {
                Due.is(told + " told, plant at " + (t + 5), x.plant(t + 5, 1 + t % 5), t);
            }
            Due.is("a seventh", x.plant(11, 1), FULL);
            Due.is("six", x.count(1), 6);
            Due.is("acts", x.count(5), 6 - told);
            x.fell(0);
            Due.is("room for one", x.plant(11, 5), 5);
            Due.is("behind all others", x.tree(5, 0), 11);
            Due.is("where there is a house", x.place(11, 2), 0);
        }
        SunHouses x = Due.village("h0,0;f0,9,9;f11,9,9;");
        Due.is("there is one at 0", x.plant(0, 1), STATE);
        Due.is("there is one at 11", x.plant(11, 1), STATE);
        x.fell(0);
        Due.is("there was one at 0", x.plant(0, 2), 1);
        Due.is("0 high", x.tree(1, 1), 0);
        Due.is("of age 0", x.tree(1, 2), 0);
        Due.is("of its kind", x.kind(1), 2);
    }

    /** The first, one between, the last: those behind are 1 less, those ahead stay. */
    private static void fellsAny() {
        String text = "h0,0;f0,1,2;o1,2,3;l2,3,4;b3,4,5;m4,5,6;f5,6,7;";
        for (int felled = 0; felled < 6; felled++) {
            SunHouses x = Due.village(text);
            Due.is("fell(" + felled + ")", x.fell(felled), 5);
            for (int t = 0; t < 5; t++) {
                int was = t < felled ? t : t + 1;
                Due.is("kind of " + t, x.kind(t), was == 5 ? 1 : was + 1);
                Due.is("place of " + t, x.tree(t, 0), was);
                Due.is("high of " + t, x.tree(t, 1), was + 1);
                Due.is("age of " + t, x.tree(t, 2), was + 2);
                Due.is("the tree of its place", x.place(was, 1), t);
            }
            Due.is("none there", x.place(felled, 1), NONE);
            Due.is("no sixth", x.kind(5), BAD);
            Due.is("undone", x.undo(), 0);
            Due.is("at its number again", x.place(felled, 1), felled);
            Due.is("the last, too", x.place(5, 1), 5);
        }
        SunHouses x = Due.village(text);
        for (int left = 5; left >= 0; left--) {
            Due.is("the last of them", x.fell(left), left);
        }
        Due.is("none left", x.fell(0), BAD);
        Due.is("six acts", x.count(5), 6);
    }

    private static void carriesAnywhere() {
        for (int p = 0; p < 12; p++) {
            SunHouses x = Due.village("h4,0;f0,30,0;f11,30,0;v3;v5;v0;v11;");
            boolean taken = p == 3 || p == 5 || p == 0 || p == 11;
            Due.is("carry(1, " + p + ")", x.carry(1, p), taken ? STATE : 5);
            Due.is("it is there, or not", x.house(1, 0), taken ? 5 : p);
            Due.is("an act, or none", x.count(5), taken ? 0 : 1);
            Due.is("no light by that", x.house(1, 1), 0);
            Due.is("no move by that", x.house(1, 2), 0);
            Due.is("nor by all", x.count(4), 0);
        }
        SunHouses x = Due.village("h0,0;v0;v11;");
        Due.is("from the lowest", x.carry(0, 5), 0);
        Due.is("from the highest", x.carry(1, 0), 11);
        Due.is("to the highest", x.carry(0, 11), 5);
        Due.is("house at 11", x.place(11, 2), 0);
        Due.is("house at 0", x.place(0, 2), 1);
        Due.is("none at 5", x.place(5, 2), NONE);
    }

    /** One of the four acts; by what is left of n divided by 4. */
    private static void act(SunHouses x, int n) {
        int before = x.count(5);
        switch (n % 4) {
            case 0: x.years(1); break;
            case 1: x.plant(9, 1 + n % 5); break;
            case 2: x.fell(x.count(1) - 1); break;
            default: x.carry(0, x.house(0, 0) == 6 ? 7 : 6);
        }
        Due.is("an act more, 24 at most", x.count(5), Math.min(24, before + 1));
    }

    /** n acts of all sorts: 24 at most can be undone, the latest first, each by itself. */
    private static void keeps24Acts() {
        for (int n : new int[] {0, 1, 23, 24, 25, 26, 47, 48, 49, 60}) {
            List<String> pictures = new ArrayList<>();
            for (int done = 0; done <= n; done++) {
                SunHouses y = Due.village(Scenes.THREE);
                for (int i = 0; i < done; i++) {
                    act(y, i);
                }
                pictures.add(Due.picture(y));
            }
            int kept = Math.min(n, 24);
            for (int undone = 0; undone <= kept; undone++) {
                SunHouses x = Due.village(Scenes.THREE);
                for (int i = 0; i < n; i++) {
                    act(x, i);
                }
                for (int i = 1; i <= undone; i++) {
                    Due.is("undo", x.undo(), kept - i);
                }
                Due.is("can be undone yet", x.count(5), kept - undone);
                Due.isTrue(n + " acts, " + undone + " undone", Due.picture(x).equals(pictures.get(n - undone)));
                if (undone == kept) {
                    Due.is("no more", x.undo(), STATE);
                    Due.isTrue("and all stays", Due.picture(x).equals(pictures.get(n - undone)));
                }
            }
        }
        // years(n) is n acts, each undone by itself
        SunHouses x = Due.village(Scenes.THREE);
        x.years(20);
        Due.is("20 acts", x.count(5), 20);
        x.years(4);
        Due.is("24 acts", x.count(5), 24);
        x.years(1);
        Due.is("24 acts of 25", x.count(5), 24);
        x.years(20);
        Due.is("24 acts of 45", x.count(5), 24);
        for (int left = 23; left >= 0; left--) {
            Due.is("undo", x.undo(), left);
        }
        Due.is("the year 21", x.count(3), 21);
        Due.is("none", x.undo(), STATE);
        // room comes back with what is undone
        x.years(3);
        Due.is("undo", x.undo(), 2);
        x.years(20);
        x.years(2);
        Due.is("24 again", x.count(5), 24);
        x.years(1);
        Due.is("24 yet", x.count(5), 24);
    }

    private static void forgetsActs() {
        SunHouses x = Due.village(Scenes.THREE);
        x.years(5);
        x.image(0);
        Due.is("an image keeps the acts", x.count(5), 5);
        Due.is("a fault", Due.tell(x, "h0"), -1000102);
        Due.is("a text with a fault keeps them", x.count(5), 5);
        Due.is("undo", x.undo(), 4);
        Due.is("the year 4", x.count(3), 4);
        Due.is("restored", x.restore(0), 1);
        Due.is("none behind a restoring", x.undo(), STATE);
        Due.is("the year 5", x.count(3), 5);
        x.years(1);
        Due.is("one", x.count(5), 1);
        Due.is("a hill", Due.tell(x, "h0,0;v3;"), 1);
        Due.is("none behind a hill", x.undo(), STATE);
        Due.is("the year 0", x.count(3), 0);
        Due.is("no light yet", x.house(0, 1), 0);
        Due.is("no move yet", x.house(0, 2), 0);
        Due.is("no tree of the other", x.count(1), 0);
        Due.is("the image stays", x.restore(0), 1);
        Due.is("the year 5 of the other hill", x.count(3), 5);
        Due.is("its trees", x.count(1), 3);
    }

    /** An IMAGE is what was kept: what comes later, or behind a restoring, does not reach it. */
    private static void imagesStay() {
        SunHouses x = Due.village(Scenes.THREE);
        Due.is("only the other one", x.image(1), 1);
        Due.is("0 was not kept", x.restore(0), STATE);
        String first = Due.picture(x);
        x.years(3);
        x.fell(0);
        x.carry(0, 0);
        Due.is("restore(1)", x.restore(1), 1);
        Due.isTrue("as kept", Due.picture(x).equals(first));
        x.years(1);
        x.plant(0, 1);
        Due.is("restore(1) again", x.restore(1), 1);
        Due.isTrue("as kept again", Due.picture(x).equals(first));
        x.years(7);
        String seventh = Due.picture(x);
        Due.is("image(0)", x.image(0), 1);
        x.years(1);
        x.restore(1);
        Due.isTrue("1 is the first", Due.picture(x).equals(first));
        x.restore(0);
        Due.isTrue("0 is the seventh year", Due.picture(x).equals(seventh));
    }

    private static void counts() {
        SunHouses x = new SunHouses();
        for (int r = 0; r < 8; r++) {
            Due.is("rows", x.count(0), r);
            x.row(r, 0, 0);
        }
        Due.is("eight rows", x.count(0), 8);
        x.row(3, 2, 40);
        Due.is("one in place of another", x.count(0), 8);
        for (int r = 7; r >= 0; r--) {
            x.drop(r);
            Due.is("rows left", x.count(0), r);
        }
        SunHouses y = Due.village("h1,2;m0,30,0;v1;v2;v3;v5;");
        y.years(20);
        int moved = 0;
        for (int h = 0; h < 4; h++) {
            moved += y.house(h, 2);
        }
        Due.is("how often, of all houses", y.count(4), moved);
        Due.is("four moved", moved, 4);
        y.image(0);
        y.undo();
        y.restore(0);
        Due.is("four in the image", y.count(4), 4);
    }
}
