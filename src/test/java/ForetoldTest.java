/** Promises 17 to 25: what is foretold, by answers worked out by hand. */
public final class ForetoldTest {
    private static final int NONE = SunHouses.NONE, BAD = SunHouses.BAD, STATE = SunHouses.STATE;

    public static void main(String[] args) {
        refusesWithoutHill();
        refusesWrongNumbers();
        tellsLight();
        tellsLives();
        tellsNext();
        tellsBest();
        tellsWhatToFell();
        tellsSeen();
        tellsPlanted();
        tellsHidden();
        tellsStorms();
        changesNothing();
        Due.end();
    }

    private static void refusesWithoutHill() {
        SunHouses x = new SunHouses();
        Due.is("light, ahead of BAD", x.light(99, 99), STATE);
        Due.is("next, ahead of BAD", x.next(99), STATE);
        Due.is("toFell, ahead of BAD", x.toFell(99, 9, 99, 9), STATE);
        Due.is("seen, ahead of BAD", x.seen(99, 99), STATE);
        Due.is("planted, ahead of BAD", x.planted(99, 99, 9, 99), STATE);
        Due.is("storms, ahead of BAD", x.storms(99, 9, 99, 99, 9), STATE);
        Due.is("lives", x.lives(0, 0, 0), BAD);
        Due.is("best", x.best(0, 1, 0), BAD);
        Due.is("hidden", x.hidden(0, 0, 0, 0, 1), BAD);
    }

    private static void refusesWrongNumbers() {
        SunHouses x = Due.village("h0,0;f3,2,1;v5;");
        Due.is("light, place", x.light(12, 0), BAD);
        Due.is("light, place", x.light(-1, 0), BAD);
        Due.is("light, d", x.light(0, 31), BAD);
        Due.is("light, d", x.light(0, -1), BAD);
        Due.is("lives, house", x.lives(1, 0, 0), BAD);
        Due.is("lives, house", x.lives(-1, 0, 0), BAD);
        Due.is("lives, d", x.lives(0, 31, 0), BAD);
        Due.is("lives, d", x.lives(0, -1, 0), BAD);
        Due.is("lives, what", x.lives(0, 0, 2), BAD);
        Due.is("lives, what", x.lives(0, 0, -1), BAD);
        Due.is("next, what", x.next(2), BAD);
        Due.is("next, what", x.next(-1), BAD);
        Due.is("best, house", x.best(1, 1, 0), BAD);
        Due.is("best, house", x.best(-1, 1, 0), BAD);
        Due.is("best, d", x.best(0, 0, 0), BAD);
        Due.is("best, d", x.best(0, 31, 0), BAD);
        Due.is("best, what", x.best(0, 1, 2), BAD);
        Due.is("best, what", x.best(0, 1, -1), BAD);
        Due.is("toFell, place", x.toFell(12, 0, 0, 0), BAD);
        Due.is("toFell, place", x.toFell(-1, 0, 0, 0), BAD);
        Due.is("toFell, v", x.toFell(0, 5, 0, 0), BAD);
        Due.is("toFell, v", x.toFell(0, -1, 0, 0), BAD);
        Due.is("toFell, d", x.toFell(0, 0, 31, 0), BAD);
        Due.is("toFell, d", x.toFell(0, 0, -1, 0), BAD);
        Due.is("toFell, what", x.toFell(0, 0, 0, 2), BAD);
        Due.is("toFell, what", x.toFell(0, 0, 0, -1), BAD);
        Due.is("planted, kind", x.planted(0, 0, 0, 0), BAD);
        Due.is("planted, kind", x.planted(6, 0, 0, 0), BAD);
        Due.is("planted, place", x.planted(1, 12, 0, 0), BAD);
        Due.is("planted, place", x.planted(1, -1, 0, 0), BAD);
        Due.is("planted, v", x.planted(1, 0, 5, 0), BAD);
        Due.is("planted, v", x.planted(1, 0, -1, 0), BAD);
        Due.is("planted, d", x.planted(1, 0, 0, 31), BAD);
        Due.is("planted, d", x.planted(1, 0, 0, -1), BAD);
        Due.is("storms, place", x.storms(12, 0, 0, 0, 0), BAD);
        Due.is("storms, place", x.storms(-1, 0, 0, 0, 0), BAD);
        Due.is("storms, v", x.storms(0, 5, 0, 0, 0), BAD);
        Due.is("storms, v", x.storms(0, -1, 0, 0, 0), BAD);
        Due.is("storms, d", x.storms(0, 0, 31, 0, 0), BAD);
        Due.is("storms, d", x.storms(0, 0, -1, 0, 0), BAD);
        Due.is("storms, c", x.storms(0, 0, 0, 11, 0), BAD);
        Due.is("storms, c", x.storms(0, 0, 0, -1, 0), BAD);
        Due.is("storms, what", x.storms(0, 0, 0, 0, 2), BAD);
        Due.is("storms, what", x.storms(0, 0, 0, 0, -1), BAD);
        refusesWrongRows(x);
    }

    private static void refusesWrongRows(SunHouses x) {
        x.row(0, 0, 16);
        Due.is("seen, row", x.seen(8, 0), BAD);
        Due.is("seen, row", x.seen(-1, 0), BAD);
        Due.is("seen, NULL", x.seen(1, 99), Due.NULL);
        Due.is("seen, PLACE", x.seen(0, 5), Due.PLACE);
        Due.is("seen, PLACE", x.seen(0, -1), Due.PLACE);
        Due.is("seen, PLACE", x.seen(0, Integer.MAX_VALUE), Due.PLACE);
        Due.is("seen, the last 12", x.seen(0, 4), NONE);
        Due.is("hidden, tree", x.hidden(1, 0, 0, 0, 1), BAD);
        Due.is("hidden, tree", x.hidden(-1, 0, 0, 0, 1), BAD);
        Due.is("hidden, place", x.hidden(0, 12, 0, 0, 1), BAD);
        Due.is("hidden, place", x.hidden(0, -1, 0, 0, 1), BAD);
        Due.is("hidden, row", x.hidden(0, 0, 8, 0, 1), BAD);
        Due.is("hidden, row", x.hidden(0, 0, -1, 0, 1), BAD);
        Due.is("hidden, n", x.hidden(0, 0, 0, 0, 0), BAD);
        Due.is("hidden, n", x.hidden(0, 0, 0, 0, 17), BAD);
        Due.is("hidden, n, ahead of NULL", x.hidden(0, 0, 1, 0, -1), BAD);
        Due.is("hidden, NULL", x.hidden(0, 0, 1, 99, 1), Due.NULL);
        Due.is("hidden, PLACE", x.hidden(0, 0, 0, 1, 16), Due.PLACE);
        Due.is("hidden, PLACE", x.hidden(0, 0, 0, -1, 1), Due.PLACE);
        Due.is("hidden, all 16", x.hidden(0, 0, 0, 0, 16), 0);
        Due.is("seen, the last row", x.seen(7, 0), Due.NULL);
        Due.is("hidden, the last row", x.hidden(0, 0, 7, 0, 1), Due.NULL);
    }

    private static void tellsLight() {
        // falls 3, 4, 5, 6; HIGH is 2d
        SunHouses x = Due.village("h0,1;f0,0,0;l1,0,0;");
        int[] ahead = {4, 4, 3, 1, 0, 0};
        for (int d = 0; d < ahead.length; d++) {
            Due.is("light(1, " + d + ")", x.light(1, d), ahead[d]);
        }
        // the lime stands in the dark behind 4 years: 8 HIGH for all time, while the fir goes on
        Due.is("light(2, 4), 8 at 1", x.light(2, 4), 0);
        Due.is("light(11, 30), 60 at 11", x.light(11, 30), 1);
        x.fell(0);
        Due.is("light(11, 30), 60 at 10", x.light(11, 30), 1);
        Due.is("light(11, 20), 40 at 10", x.light(11, 20), 3);
        Due.is("light(11, 15), 30 at 10", x.light(11, 15), 4);
    }

    private static void tellsLives() {
        SunHouses x = Due.village("h0,0;m0,7,0;v3;v1;v2;");
        x.years(1);
        // told by ActsTest.moves(): house 1 has moved to 0, house 2 moves to 4 next
        Due.is("lives(2, 0, 0)", x.lives(2, 0, 0), 2);
        Due.is("lives(2, 1, 0)", x.lives(2, 1, 0), 4);
        Due.is("lives(2, 1, 1)", x.lives(2, 1, 1), 0);
        Due.is("lives(2, 30, 1)", x.lives(2, 30, 1), 116);
        Due.is("lives(0, 0, 1), of all years", x.lives(0, 0, 1), 4);
        Due.is("lives(0, 30, 1), of all years", x.lives(0, 30, 1), 124);
    }

    private static void tellsNext() {
        SunHouses x = Due.village("h0,0;m0,7,0;v3;v1;v2;");
        Due.is("next(0)", x.next(0), 1);
        Due.is("next(1)", x.next(1), 1);
        x.years(1);
        Due.is("next(1) then", x.next(1), 2);
        x.years(1);
        Due.is("none", x.next(0), NONE);
        Due.is("none", x.next(1), NONE);
        Due.is("no houses", Due.village("h0,0;").next(0), NONE);
        // in SEASON 0 the fir of HIGH 2d shades its next place as HIGH is 4: ahead of the third year
        SunHouses y = Due.village("h0,2;f4,0,0;v0;v5;");
        Due.is("later", y.next(0), 3);
        Due.is("who", y.next(1), 1);
        SunHouses z = Due.village("h0,0;o0,0,20;v1;");
        Due.is("by 1 a year: 4 ahead of the fifth", z.next(0), 5);
        // moss of 30 at 0 and at 1 darkens all but 0, where a house is: the other has least and stays
        Due.is("no place has more", Due.village("h2,0;m0,30,0;m1,30,0;v0;v7;").next(0), NONE);
        // 30 years are looked at: HIGH is 30 ahead of the 31st, 31 ahead of the 32nd
        SunHouses late = Due.village("h0,0;o0,0,20;v10;");
        late.years(2);
        Due.is("31 ahead of the 30th", late.next(0), 30);
        late.undo();
        Due.is("31 ahead of the 31st", late.next(0), NONE);
    }

    private static void tellsBest() {
        SunHouses x = Due.village("h0,0;m0,7,0;v3;v1;v2;v4;");
        x.years(1);
        // where it is now (0), 4 in each year
        Due.is("the one it is at", x.best(1, 5, 0), 0);
        Due.is("how much, of these years alone", x.best(1, 5, 1), 20);
        Due.is("another", x.best(2, 5, 0), 5);
        Due.is("how much", x.best(2, 5, 1), 20);
        x.years(5);
        Due.is("how much, whatever it had", x.best(2, 5, 1), 20);
        // a tree at 0 grows, all behind it are dark soon: at 0 itself there is light
        SunHouses y = Due.village("h4,0;f0,30,0;v7;v0;");
        Due.is("0 has a house", y.best(0, 30, 0), 1);
        Due.is("dark everywhere", y.best(0, 30, 1), 0);
        Due.is("the house at 0", y.best(1, 30, 0), 0);
        Due.is("all light", y.best(1, 30, 1), 120);
        // it may MOVE within the years: carried to 1 it is dark there, moves to 0, has light then
        SunHouses z = Due.village("h4,0;f0,30,0;v0;v7;");
        z.carry(0, 2);
        Due.is("carried to 0", z.best(1, 3, 0), 0);
        Due.is("light in each year", z.best(1, 3, 1), 12);
    }

    private static void tellsWhatToFell() {
        // falls 3 each: 7 HIGH reaches 2 further, 4 HIGH 1 further
        SunHouses x = Due.village("h0,0;m0,7,0;m1,4,0;m5,30,0;");
        Due.is("none at 0", x.toFell(0, 4, 0, 0), 0);
        Due.is("none at 0", x.toFell(0, 4, 0, 1), 0);
        Due.is("one at 1", x.toFell(1, 1, 30, 0), 1);
        Due.is("that at 0", x.toFell(1, 4, 30, 1), 1);
        Due.is("two at 2", x.toFell(2, 1, 0, 0), 2);
        Due.is("those at 0 and 1", x.toFell(2, 1, 0, 1), 3);
        Due.is("that at 5", x.toFell(7, 2, 0, 1), 4);
        Due.is("v 0", x.toFell(2, 0, 30, 0), 0);
        Due.is("a lime that does not grow", Due.village("h0,0;m3,4,0;l4,0,0;").toFell(5, 4, 9, 1), 0);
        // felled, the moss lets the lime at 1 grow, and that one keeps the lime at 2 low: as good as felling this
        Due.is("of several the least", Due.village("h0,0;m0,4,0;l1,2,0;l2,0,0;").toFell(3, 4, 2, 1), 1);
        Due.is("of several the least", Due.village("h0,0;l2,0,0;l1,2,0;m0,4,0;").toFell(3, 4, 2, 1), 1);
        SunHouses z = Due.village("h0,0;f3,6,0;l4,0,0;");
        Due.is("felled, the lime would grow: both", z.toFell(5, 4, 9, 1), 3);
        Due.is("how many", z.toFell(5, 4, 9, 0), 2);
    }

    private static void tellsSeen() {
        SunHouses x = Due.village("h0,0;f9,0,0;");
        // 2d is more than 3 behind 2 years, more than 6 behind 4
        Due.fill(x, 0, 7, 4, 4, 4, 4, 4, 4, 4, 4, 4, 4, 0, 4);
        Due.is("seen", x.seen(0, 1), 2);
        x.set(0, 12, 0);
        Due.is("later", x.seen(0, 1), 4);
        x.years(3);
        Due.is("from now", x.seen(0, 1), 1);
        x.years(1);
        Due.is("now", x.seen(0, 1), 0);
        x.set(0, 11, 4);
        Due.is("never", x.seen(0, 1), NONE);
        // behind 30 years and no more: an oak of 20 from 0 to 30 HIGH grows by 1, 31 is more than 3 times 10
        SunHouses y = Due.village("h0,0;o1,0,20;");
        Due.fill(y, 0, 4, 4, 0, 0, 0, 0, 0, 0, 0, 0, 0, 4);
        Due.is("28 is more than 27", y.seen(0, 0), 28);
        y.set(0, 11, 0);
        Due.is("31 years are too many", y.seen(0, 0), NONE);
        y.years(1);
        Due.is("30 are not", y.seen(0, 0), 30);
    }

    private static void tellsPlanted() {
        SunHouses x = Due.village("h0,0;m2,0,0;");
        // behind 4 years a fir is 8 HIGH: it reaches 2 further
        Due.is("a fir, dark", x.planted(1, 5, 0, 4), 1 << 3 | 1 << 4);
        Due.is("a fir, light", x.planted(1, 5, 4, 4), 4095 - (1 << 3) - (1 << 4) - (1 << 2));
        Due.is("not in between", x.planted(1, 5, 3, 4), 0);
        Due.is("an oak", x.planted(2, 5, 0, 4), 1 << 3 | 1 << 4);
        Due.is("a lime", x.planted(3, 5, 0, 4), 1 << 3 | 1 << 4);
        Due.is("a bush", x.planted(4, 5, 0, 4), 1 << 4);
        Due.is("a bush, 8 at most", x.planted(4, 5, 0, 30), 1 << 3 | 1 << 4);
        Due.is("moss", x.planted(5, 5, 0, 30), 0);
        Due.is("now", x.planted(1, 5, 0, 0), 0);
        // falls 3, 4, 5, 6: a fir 8 HIGH leaves one of 2 further 3, one next to it 0
        SunHouses y = Due.village("h0,1;");
        Due.is("v as told, not more", y.planted(1, 5, 3, 4), 1 << 3);
        // six trees: of a seventh it is asked nonetheless
        SunHouses z = Due.village("h0,0;m6,0,0;m7,0,0;m8,0,0;m9,0,0;m10,0,0;m11,0,0;");
        Due.is("one tree more than six", z.planted(1, 5, 0, 4), 1 << 3 | 1 << 4);
    }

    private static void tellsHidden() {
        SunHouses x = Due.village("h0,0;m0,2,18;");
        // LIGHT of 1: dark as soon as it is 4 HIGH
        Due.fill(x, 0, 4, 0, 0);
        Due.is("by 2 at once", x.hidden(0, 1, 0, 0, 3), 1 << 1 | 1 << 2 | 1 << 3);
        Due.fill(x, 1, 4, 4, 0);
        Due.is("by 1 a year", x.hidden(0, 1, 1, 0, 3), 1 << 4);
        Due.fill(x, 2, 4, 4, 4, 4);
        Due.is("not at all", x.hidden(0, 1, 2, 0, 4), 1 << 5);
        Due.is("this year alone tells nothing", x.hidden(0, 1, 0, 0, 1), 62);
        Due.is("of a part of the row", x.hidden(0, 1, 1, 1, 2), 1 << 1 | 1 << 2 | 1 << 3);
        // LIGHT of 2: dark at 7 HIGH: a fir behind 3 years (8), an oak behind 4 (4, 6, 7, 8 ..: 7 behind 3)
        Due.fill(x, 3, 4, 4, 4, 0);
        Due.is("an oak of 20 grows by 1", x.hidden(0, 2, 3, 0, 4), 1 << 1 | 1 << 2 | 1 << 3);
        // LIGHT of 3: dark at 10 HIGH: a fir behind 4 years (10), an oak behind 6
        Due.fill(x, 4, 4, 4, 4, 4, 0, 0, 0);
        Due.is("no oak", x.hidden(0, 3, 4, 0, 7), 1 << 1 | 1 << 3);
        Due.fill(x, 5, 4, 4, 4, 4, 4, 4, 0);
        Due.is("an oak", x.hidden(0, 3, 5, 0, 7), 1 << 2);
        Due.is("the hill is as it was", x.kind(0), 5);
    }

    private static void storm(SunHouses x, int place, int v, int d, int c, int above, int below) {
        String call = "storms(" + place + ", " + v + ", " + d + ", " + c + ")";
        Due.is(call + " above", x.storms(place, v, d, c, 0), above);
        Due.is(call + " below", x.storms(place, v, d, c, 1), below);
    }

    private static void tellsStorms() {
        SunHouses x = Due.village("h0,0;m0,7,0;m1,4,0;m5,30,0;");
        storm(x, 0, 4, 0, 3, 1, 1);
        storm(x, 1, 1, 0, 3, 3, 10);
        storm(x, 2, 1, 0, 3, 9, 100);
        storm(x, 2, 4, 30, 5, 1, 4);
        storm(x, 2, 0, 30, 5, 1, 1);
        storm(x, 2, 1, 0, 0, 0, 1);
        storm(x, 0, 1, 0, 0, 1, 1);
        storm(x, 2, 1, 0, 10, 1, 1);
        storm(x, 7, 1, 0, 2, 1, 5);
        // light if the lime fell, or the moss that keeps it dark did not: 1 - (1 - 4/10) * 4/10
        storm(Due.village("h0,0;m3,4,0;l4,0,0;"), 5, 4, 9, 4, 19, 25);
        storm(Due.village("h0,0;"), 5, 4, 9, 4, 1, 1);
        SunHouses six = Due.village("h4,0;f0,30,0;f1,30,0;f2,30,0;f3,30,0;f4,30,0;f5,30,0;");
        storm(six, 6, 1, 0, 1, 1, 1000000);
        storm(six, 6, 4, 30, 9, 531441, 1000000);
    }

    private static void changesNothing() {
        SunHouses x = Due.village("h1,1;f0,7,0;o2,12,19;l5,3,2;b7,7,9;m9,4,0;f11,30,30;v3;v6;v10;");
        x.years(2);
        String before = Due.picture(x);
        x.row(0, 0, 40);
        for (int d = 1; d <= 30; d++) {
            x.light(5, d);
            x.lives(0, d, 0);
            x.best(1, d, 0);
            x.toFell(6, 4, d, 0);
            x.planted(1, 8, 4, d);
            x.storms(8, 2, d, 3, 0);
        }
        x.next(0);
        x.seen(0, 0);
        x.hidden(2, 8, 0, 0, 16);
        Due.isTrue("nothing changes", before.equals(Due.picture(x)));
        Due.is("no act", x.count(5), 2);
    }
}
