/** The boundary cases of "3 FORETOLD" and of promises 17 to 25. */
public final class ForetoldBoundsTest {
    private static final int NONE = SunHouses.NONE, MIN = Integer.MIN_VALUE, MAX = Integer.MAX_VALUE;
    // falls 2, 4, 6, 8: LIGHT 4 0 0 0 1 2 2 2 3 3 3 3 for all time
    private static final String STILL = "h1,2;m0,30,0;";

    public static void main(String[] args) {
        lightFrom0To30();
        livesFrom0To30();
        nextFrom1To30();
        bestPlaces();
        bestCountsItsYears();
        fellsFewest();
        fellsLeastOfSeveral();
        seenFrom0To30();
        seenTakes12Items();
        plantedBits();
        plantedBeyondSix();
        hiddenTakesItems();
        hiddenKinds();
        stormsAreFractions();
        Due.end();
    }

    /** An oak of 20 is d high behind d years: LIGHT of the place 10 further is gone when 31 is more than 30. */
    private static void lightFrom0To30() {
        SunHouses x = Due.village("h0,0;o0,0,20;");
        Due.is("now", x.light(9, 0), 4);
        Due.is("27 years: 27 is not more than 27", x.light(9, 27), 4);
        Due.is("28 years", x.light(9, 28), 0);
        Due.is("30 years: 30 is not more than 30", x.light(10, 30), 4);
        x.years(1);
        Due.is("29 years then", x.light(10, 29), 4);
        Due.is("30 years then", x.light(10, 30), 0);
        Due.is("31 years then", x.light(10, 31), SunHouses.BAD);
        Due.is("now, as place() tells", x.light(1, 0), x.place(1, 0));
        Due.is("at the last place", x.light(11, 30), 4);
    }

    private static void livesFrom0To30() {
        SunHouses x = Due.village(STILL + "v1;v8;v0;v5;");
        Due.is("where it is now", x.lives(0, 0, 0), 1);
        Due.is("what it had by now", x.lives(0, 0, 1), 0);
        Due.is("the first year", x.lives(0, 1, 0), 9);
        Due.is("had by then", x.lives(0, 1, 1), 0);
        Due.is("the second year, another", x.lives(3, 2, 0), 10);
        Due.is("had by then", x.lives(3, 2, 1), 4);
        Due.is("30 years", x.lives(0, 30, 1), 87);
        Due.is("30 years", x.lives(2, 30, 1), 120);
        Due.is("30 years", x.lives(3, 30, 1), 88);
        x.years(1);
        Due.is("of all years, those before too", x.lives(2, 0, 1), 4);
        Due.is("of all years, those before too", x.lives(2, 30, 1), 124);
        Due.is("lives(3, 1, 0)", x.lives(3, 1, 0), 10);
    }

    /** The first that MOVES, behind 1 to 30 years; one that would in the 31st is none. */
    private static void nextFrom1To30() {
        for (int n = 0; n <= 3; n++) {
            // the oak is 4 high ahead of the fifth year
            SunHouses x = Due.village("h0,0;o0,0,20;v11;v1;");
            for (int y = 0; y < n; y++) {
                x.years(1);
            }
            Due.is("behind how many", x.next(0), 5 - n);
            Due.is("which", x.next(1), 1);
        }
        SunHouses now = Due.village("h0,0;o0,4,20;v11;v1;");
        Due.is("in the year that comes: 1", now.next(0), 1);
        // 31 high ahead of the 32nd year
        SunHouses x = Due.village("h0,0;o0,0,20;v10;");
        Due.is("in the 32nd", x.next(0), NONE);
        Due.is("in the 32nd, which", x.next(1), NONE);
        x.years(1);
        Due.is("in the 31st", x.next(0), NONE);
        Due.is("in the 31st, which", x.next(1), NONE);
        x.years(1);
        Due.is("in the 30th", x.next(0), 30);
        Due.is("in the 30th, which", x.next(1), 0);
        Due.is("no houses", Due.village(STILL).next(1), NONE);
        // the last of four
        Due.is("the fourth house", Due.village(STILL + "v0;v8;v9;v5;").next(1), 3);
    }

    private static void bestPlaces() {
        SunHouses x = Due.village(STILL + "v8;v0;v9;");
        Due.is("the least of 8, its own, and 10, 11", x.best(0, 1, 0), 8);
        Due.is("how much", x.best(0, 1, 1), 3);
        Due.is("it is at 0 itself", x.best(1, 1, 0), 0);
        Due.is("how much", x.best(1, 1, 1), 4);
        Due.is("30 years", x.best(1, 30, 1), 120);
        Due.is("the least of 9, its own, and 10, 11", x.best(2, 1, 0), 9);
        // its own place is not the least of those with most
        SunHouses y = Due.village("h0,0;v5;v0;");
        Due.is("all light: the least without a house", y.best(0, 30, 0), 1);
        Due.is("all light: its own is the least", y.best(1, 30, 0), 0);
        // the last place alone
        SunHouses z = Due.village("h2,0;m0,11,0;v0;v5;");
        Due.is("the highest place", z.best(1, 1, 0), 11);
        Due.is("how much", z.best(1, 1, 1), 4);
        // dark everywhere: the least, and 0
        SunHouses w = Due.village("h4,0;m0,30,0;v0;v11;");
        Due.is("the least that is free", w.best(1, 30, 0), 1);
        Due.is("no light", w.best(1, 30, 1), 0);
        // a place with a tree may be the best
        Due.is("at the tree", Due.village("h4,0;m3,30,0;v0;v1;v2;v7;").best(3, 2, 0), 3);
    }

    /** d from 1 to 30; of these years alone, whatever was had; with the moves of all houses within them. */
    private static void bestCountsItsYears() {
        SunHouses x = Due.village(STILL + "v5;v0;");
        for (int d = 1; d <= 30; d++) {
            Due.is("how much in " + d, x.best(0, d, 1), 3 * d);
        }
        x.years(10);
        Due.is("not what it had", x.best(0, 1, 1), 3);
        Due.is("d 0", x.best(0, 0, 1), SunHouses.BAD);
        Due.is("d 31", x.best(0, 31, 1), SunHouses.BAD);
        // 0 becomes free: the house there is carried away, and the one in the dark moves to it within the years
        SunHouses y = Due.village("h4,0;m0,30,0;v1;");
        Due.is("0 at once", y.best(0, 2, 0), 0);
        Due.is("4 and 4", y.best(0, 2, 1), 8);
    }

    private static void fellsFewest() {
        SunHouses six = Due.village("h4,0;m0,30,0;m1,30,0;m2,30,0;m3,30,0;m4,30,0;m5,30,0;");
        for (int p = 0; p < 12; p++) {
            int ahead = Math.min(p, 6);
            Due.is("all ahead of " + p, six.toFell(p, 4, 0, 0), ahead);
            Due.is("which", six.toFell(p, 1, 30, 1), (1 << ahead) - 1);
            Due.is("v 0 wants none", six.toFell(p, 0, 0, 0), 0);
            Due.is("v 0 wants none", six.toFell(p, 0, 30, 1), 0);
        }
        SunHouses bare = Due.village("h0,0;");
        Due.is("no trees", bare.toFell(11, 4, 30, 0), 0);
        Due.is("no trees", bare.toFell(11, 4, 30, 1), 0);
        // LIGHT of 4 is 1, of 5 is 2, of 8 is 3: v or more
        SunHouses still = Due.village(STILL);
        int[] places = {1, 4, 5, 8, 0};
        for (int has = 0; has <= 4; has++) {
            for (int v = 0; v <= 4; v++) {
                Due.is("LIGHT " + has + ", v " + v, still.toFell(places[has], v, 0, 0), has >= v ? 0 : 1);
                Due.is("LIGHT " + has + ", v " + v, still.toFell(places[has], v, 30, 1), has >= v ? 0 : 1);
            }
        }
        // d years from now: the oak is 3 high behind 3 years, 4 behind 4
        SunHouses oak = Due.village("h0,0;o0,0,20;");
        Due.is("3 years", oak.toFell(1, 4, 3, 0), 0);
        Due.is("4 years", oak.toFell(1, 4, 4, 0), 1);
        Due.is("30 years", oak.toFell(10, 4, 30, 0), 0);
        oak.years(1);
        Due.is("30 years then", oak.toFell(10, 4, 30, 0), 1);
    }

    /** Of several sets of as few the least, as a number. */
    private static void fellsLeastOfSeveral() {
        // either of two limes, or the moss that keeps the lower one low (see ForetoldTest): 1, 2, 4 would do
        String[] told = {"m0,4,0;", "l1,2,0;", "l2,0,0;"};
        int[][] orders = {{0, 1, 2}, {0, 2, 1}, {1, 0, 2}, {1, 2, 0}, {2, 0, 1}, {2, 1, 0}};
        for (int[] order : orders) {
            StringBuilder text = new StringBuilder("h0,0;");
            for (int i : order) {
                text.append(told[i]);
            }
            int least = 0;
            for (int bits = 1; bits < 8 && least == 0; bits++) {
                SunHouses y = Due.village(text.toString());
                for (int t = 2; t >= 0; t--) {
                    if (Integer.bitCount(bits) == 1 && (bits >> t & 1) != 0) {
                        y.fell(t);
                    }
                }
                y.years(2);
                least = Integer.bitCount(bits) == 1 && y.place(3, 0) == 4 ? bits : 0;
            }
            Due.is(text + " which", Due.village(text.toString()).toFell(3, 4, 2, 1), least);
            Due.is(text + " how many", Due.village(text.toString()).toFell(3, 4, 2, 0), 1);
        }
        // one of 8 is fewer than two of 1 and 2, though it is more as a number
        Due.is("fewest ahead of least", Due.village("h0,0;m0,0,0;m1,0,0;m2,0,0;m4,9,0;").toFell(5, 4, 0, 1), 8);
    }

    private static void seenFrom0To30() {
        // an oak of 20: n high behind n years; 1 further is dark from 4 on, 10 further from 31 on
        SunHouses x = Due.village("h0,0;o1,0,20;");
        Due.fill(x, 0, 4, 4, 4, 4, 4, 4, 4, 4, 4, 4, 4, 4);
        Due.is("now: 0", x.seen(0, 0), 0);
        x.set(0, 2, 0);
        Due.is("4 years", x.seen(0, 0), 4);
        for (int p = 3; p < 11; p++) {
            x.set(0, p, 0);
            Due.is("the first with p dark", x.seen(0, 0), 3 * (p - 1) + 1);
        }
        x.set(0, 11, 0);
        Due.is("31 years", x.seen(0, 0), NONE);
        Due.is("NONE is found by none", x.status(), 0);
        x.years(1);
        Due.is("30 years", x.seen(0, 0), 30);
        x.set(0, 11, 5);
        Due.is("5 is no LIGHT", x.seen(0, 0), NONE);
        x.set(0, 11, -1);
        Due.is("-1 is no LIGHT", x.seen(0, 0), NONE);
        x.set(0, 11, 256);
        Due.is("256 is 0 as a byte", x.seen(0, 0), 30);
        // each of the 12 places is looked at
        SunHouses bare = Due.village("h0,0;");
        for (int p = 0; p < 12; p++) {
            Due.fill(bare, 1, 4, 4, 4, 4, 4, 4, 4, 4, 4, 4, 4, 4);
            Due.is("all", bare.seen(1, 0), 0);
            bare.set(1, p, 3);
            Due.is("not " + p, bare.seen(1, 0), NONE);
        }
        // the lowest bits alone are kept in shorts, none is lost in ints
        for (int lane = 0; lane < 3; lane++) {
            SunHouses y = Due.village("h0,0;");
            y.row(5, lane, 12);
            for (int p = 0; p < 12; p++) {
                y.set(5, p, 4 + 65536);
            }
            Due.is("65540 in lane " + lane, y.seen(5, 0), lane == 2 ? NONE : 0);
        }
    }

    private static void seenTakes12Items() {
        SunHouses x = Due.village("h0,0;");
        for (int n : new int[] {0, 1, 11, 12, 13, 39, 40}) {
            x.row(0, 0, n);
            for (int i = -1; i <= n + 1; i++) {
                Due.is("seen(0, " + i + ") of " + n, x.seen(0, i), i >= 0 && i + 12 <= n ? NONE : Due.PLACE);
            }
            Due.is("MIN", x.seen(0, MIN), Due.PLACE);
            Due.is("MAX", x.seen(0, MAX), Due.PLACE);
            Due.is("MAX - 11", x.seen(0, MAX - 11), Due.PLACE);
        }
        Due.is("missing", x.seen(1, 0), Due.NULL);
        x.drop(0);
        Due.is("dropped", x.seen(0, 0), Due.NULL);
    }

    private static void plantedBits() {
        SunHouses bare = Due.village("h2,0;");
        Due.is("now it is 0 high: everywhere", bare.planted(1, 11, 4, 0), 4095);
        Due.is("now it is 0 high: nowhere", bare.planted(1, 11, 0, 0), 0);
        Due.is("nothing darkens 0", bare.planted(1, 0, 4, 30), 4095);
        Due.is("60 high darkens 11 from all below", bare.planted(1, 11, 0, 30), 2047);
        Due.is("but not at 11 itself", bare.planted(1, 11, 4, 30), 2048);
        Due.is("2 high behind a year: the next alone", bare.planted(1, 11, 0, 1), 1 << 10);
        Due.is("moss darkens nothing", bare.planted(5, 11, 4, 30), 4095);
        Due.is("a bush of 8: 7 further", bare.planted(4, 11, 0, 30), 0x7f0);
        Due.is("a bush of 7: 6 further", bare.planted(4, 11, 0, 7), 0x7e0);
        Due.is("a bush of 8 behind 8", bare.planted(4, 11, 0, 8), 0x7f0);
        // places with trees are none of these
        SunHouses two = Due.village("h2,0;m0,0,0;m11,0,0;v5;");
        Due.is("neither 0 nor 11", two.planted(5, 3, 4, 0), 0x7fe);
        Due.is("where there is a house, too", two.planted(5, 3, 4, 30) >> 5 & 1, 1);
        // v as it is, not more: falls 2, 4, 6, 8, a fir of 10 leaves 3 to 3 further and 4 further, 2 to 2 further
        SunHouses x = Due.village("h1,2;");
        int[] bits = new int[5];
        for (int v = 0; v <= 4; v++) {
            bits[v] = x.planted(1, 6, v, 5);
        }
        Due.is("LIGHT 0", bits[0], 1 << 5);
        Due.is("LIGHT 1", bits[1], 0);
        Due.is("LIGHT 2", bits[2], 1 << 4);
        Due.is("LIGHT 3", bits[3], 1 << 3 | 1 << 2);
        Due.is("LIGHT 4", bits[4], 4095 & ~(15 << 2));
        // an oak is planted with AGE 0: 38, 40 behind 19, 20 years, 41, 42, 43 behind 21, 22, 23
        SunHouses wide = Due.village("h0,1;");
        Due.is("an oak, 20 years: 4 times 10 is not less than 40", wide.planted(2, 10, 3, 20) & 1, 1);
        Due.is("an oak, 21 years: it is less than 41", wide.planted(2, 10, 3, 21) & 1, 0);
        Due.is("an oak, 22 years: 6 times 7 is not less than 42", wide.planted(2, 7, 1, 22) & 1, 1);
        Due.is("an oak, 23 years: it is less than 43", wide.planted(2, 7, 1, 23) & 1, 0);
    }

    private static void plantedBeyondSix() {
        String six = "h2,0;m0,0,0;m1,0,0;m2,0,0;m3,0,0;m4,0,0;m5,0,0;";
        SunHouses x = Due.village(six);
        Due.is("a seventh darkens", x.planted(1, 11, 0, 30), 0x7c0);
        Due.is("a seventh does not", x.planted(1, 11, 4, 30), 0x800);
        Due.is("there is no room for it", x.plant(6, 1), SunHouses.FULL);
        Due.is("six yet", x.count(1), 6);
    }

    private static void hiddenTakesItems() {
        SunHouses x = Due.village("h0,0;m0,0,0;");
        for (int n : new int[] {0, 1, 15, 16, 17, 40}) {
            x.row(0, 0, n);
            for (int many : new int[] {1, 2, 15, 16}) {
                for (int i : new int[] {MIN, -1, 0, n - many - 1, n - many, n - many + 1, n, MAX, MAX - many + 1}) {
                    boolean there = i >= 0 && (long) i + many <= n;
                    Due.is("hidden(0, 0, 0, " + i + ", " + many + ") of " + n, x.hidden(0, 0, 0, i, many),
                            there ? 0 : Due.PLACE);
                }
            }
        }
    }

    private static void hiddenKinds() {
        // n years, this one first: the oak of 20 is dark 1 further behind 4 years, the fir behind 2
        SunHouses x = Due.village("h0,0;o0,0,20;");
        Due.fill(x, 0, 4, 4, 4, 4, 0, 0, 0, 0, 0, 0, 0, 0, 0, 0, 0, 0);
        Due.is("oak or bush, 16 years", x.hidden(0, 1, 0, 0, 16), 1 << 2 | 1 << 4);
        Due.is("4 years", x.hidden(0, 1, 0, 0, 4), 1 << 2 | 1 << 4 | 1 << 5);
        Due.is("3 years", x.hidden(0, 1, 0, 0, 3), 1 << 2 | 1 << 4 | 1 << 5);
        Due.is("2 years", x.hidden(0, 1, 0, 0, 2), 62);
        Due.is("1 year", x.hidden(0, 1, 0, 0, 1), 62);
        Due.is("none", x.hidden(0, 1, 0, 5, 1), 0);
        // its AGE stays: an oak of 19 grows by 2 once
        SunHouses young = Due.village("h0,0;b0,0,19;");
        Due.fill(young, 0, 4, 4, 4, 0);
        Due.is("2, 3, 4", young.hidden(0, 1, 0, 0, 4), 1 << 2);
        // what is higher than a bush's bound stays: 10 high is dark 3 further, 12 is not dark 4 further yet
        SunHouses high = Due.village("h0,0;f0,10,0;");
        Due.fill(high, 0, 4, 4);
        Due.fill(high, 1, 4, 4, 0);
        Due.is("4 further, 2 years", high.hidden(0, 4, 0, 0, 2), 62);
        Due.is("4 further, 3 years: those that grow by 2", high.hidden(0, 4, 1, 0, 3), 1 << 1 | 1 << 2 | 1 << 3);
        Due.fill(high, 2, 0, 0, 0, 0, 0, 0, 0, 0, 0, 0, 0, 0, 0, 0, 0, 0);
        Due.is("a bush of 10 does not shrink", high.hidden(0, 3, 2, 0, 16), 62);
        // the last of six trees, and all else as it is
        SunHouses six = Due.village("h0,0;m0,0,0;m1,0,0;m2,0,0;m3,0,0;m4,0,0;f10,0,0;");
        Due.fill(six, 0, 4, 4, 0);
        Due.is("tree 5", six.hidden(5, 11, 0, 0, 3), 1 << 1 | 1 << 2 | 1 << 3);
        Due.is("tree 0", six.hidden(0, 11, 0, 0, 3), 62);
        Due.is("kinds stay", six.kind(0), 5);
        Due.is("kinds stay", six.kind(5), 1);
        // as a lime in the dark it stands still
        SunHouses dark = Due.village("h0,0;m0,9,0;f1,2,0;");
        Due.fill(dark, 0, 0, 0, 0);
        Due.fill(dark, 1, 4, 4, 4);
        Due.is("2 further is dark by the moss", dark.hidden(1, 2, 0, 0, 3), 62);
        Due.is("3 further: lime, bush, moss do not reach it", dark.hidden(1, 3, 1, 0, 3), 62);
    }

    private static void storm(SunHouses x, int place, int v, int d, int c, int above, int below) {
        String call = "storms(" + place + ", " + v + ", " + d + ", " + c + ")";
        Due.is(call + " above", x.storms(place, v, d, c, 0), above);
        Due.is(call + " below", x.storms(place, v, d, c, 1), below);
    }

    /** In lowest terms; 0 is 0 by 1; what is sure is 1 by 1. */
    private static void stormsAreFractions() {
        SunHouses one = Due.village(STILL);
        int[] above = {0, 1, 1, 3, 2, 1, 3, 7, 4, 9, 1};
        int[] below = {1, 10, 5, 10, 5, 2, 5, 10, 5, 10, 1};
        for (int c = 0; c <= 10; c++) {
            storm(one, 1, 1, 0, c, above[c], below[c]);
            storm(one, 1, 4, 30, c, above[c], below[c]);
            storm(one, 1, 0, 30, c, 1, 1);
            storm(one, 0, 4, 30, c, 1, 1);
            // LIGHT 3 is there, 4 if the moss fell
            storm(one, 8, 3, 0, c, 1, 1);
            storm(one, 8, 4, 0, c, above[c], below[c]);
        }
        SunHouses six = Due.village("h4,0;m0,30,0;m1,30,0;m2,30,0;m3,30,0;m4,30,0;m5,30,0;");
        storm(six, 11, 4, 30, 0, 0, 1);
        storm(six, 11, 4, 30, 10, 1, 1);
        storm(six, 11, 1, 0, 1, 1, 1000000);
        storm(six, 11, 1, 0, 2, 1, 15625);
        storm(six, 11, 1, 0, 5, 1, 64);
        storm(six, 11, 1, 0, 9, 531441, 1000000);
        storm(six, 0, 4, 30, 7, 1, 1);
        storm(Due.village("h0,0;"), 11, 4, 30, 10, 1, 1);
        storm(Due.village("h0,0;"), 11, 4, 30, 0, 1, 1);
        // d years from now: the oak is 3 high behind 3 years, 4 behind 4
        SunHouses oak = Due.village("h0,0;o0,0,20;");
        storm(oak, 1, 4, 3, 3, 1, 1);
        storm(oak, 1, 4, 4, 3, 3, 10);
    }
}
