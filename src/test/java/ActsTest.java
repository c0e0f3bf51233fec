/** Promises 9 to 16, 26, 27 and 32: acts, undone and not, images, and how the hill stands. */
public final class ActsTest {
    private static final int NONE = SunHouses.NONE, BAD = SunHouses.BAD, STATE = SunHouses.STATE, FULL = SunHouses.FULL;

    public static void main(String[] args) {
        shades();
        grows();
        moves();
        passesYears();
        plants();
        fells();
        carries();
        undoesEach();
        undoes();
        keepsImages();
        refusesWrongNumbers();
        Due.end();
    }

    private static void shades() {
        // the sun falls 3 + 2k - 1: 2, 4, 6, 8
        SunHouses x = Due.village("h1,2;f2,12,0;v4;");
        int[] shade = {0, 0, 0, 15, 3, 1, 1, 1, 0, 0, 0, 0};
        int[] light = {4, 4, 4, 0, 2, 3, 3, 3, 4, 4, 4, 4};
        for (int p = 0; p < 12; p++) {
            Due.is("shade at " + p, x.place(p, 3), shade[p]);
            Due.is("light at " + p, x.place(p, 0), light[p]);
            Due.is("tree at " + p, x.place(p, 1), p == 2 ? 0 : NONE);
            Due.is("house at " + p, x.place(p, 2), p == 4 ? 0 : NONE);
        }
        // it falls 1 at least: 3 - 4, 4 - 4, 5 - 4, 6 - 4 are 1, 1, 1, 2
        SunHouses steep = Due.village("h4,1;f0,2,0;f11,30,0;");
        Due.is("steep, at 1", steep.place(1, 3), 7);
        Due.is("steep, at 2", steep.place(2, 3), 0);
        SunHouses two = Due.village("h0,0;f0,4,0;m1,30,0;");
        Due.is("of two trees", two.place(1, 3), 15);
        Due.is("behind moss", two.place(2, 3), 15);
        Due.is("10 further than moss", two.place(11, 3), 0);
    }

    private static void grown(String text, int n, int high, int age) {
        SunHouses x = Due.village(text);
        for (int left = n; left > 0; left -= 20) {
            x.years(Math.min(left, 20));
        }
        int last = x.count(1) - 1;
        Due.is("high of the last of " + text + " after " + n, x.tree(last, 1), high);
        Due.is("age of the last of " + text + " after " + n, x.tree(last, 2), age);
    }

    private static void grows() {
        grown("h0,0;f0,3,5;", 4, 11, 9);
        grown("h0,0;f0,29,0;", 15, 59, 15);
        grown("h0,0;f0,29,0;", 16, 60, 16);
        grown("h0,0;f0,30,0;", 40, 60, 40);
        grown("h0,0;o0,3,18;", 1, 5, 19);
        grown("h0,0;o0,3,18;", 2, 7, 20);
        grown("h0,0;o0,3,18;", 3, 8, 21);
        grown("h0,0;o0,3,30;", 3, 6, 33);
        grown("h0,0;l0,3,0;", 3, 9, 3);
        grown("h0,0;b0,6,0;", 1, 7, 1);
        grown("h0,0;b0,6,0;", 9, 8, 9);
        grown("h0,0;b0,8,0;", 9, 8, 9);
        grown("h0,0;b0,9,0;", 9, 9, 9);
        grown("h0,0;m0,9,0;", 9, 9, 9);
        // a lime in the dark
        grown("h0,0;m0,4,0;l1,3,0;", 5, 3, 5);
        // in the dark in all seasons but the last (3, 4, 5, 6)
        grown("h0,1;m0,6,0;l1,3,0;", 5, 13, 5);
        grown("h0,1;m0,7,0;l1,3,0;", 5, 3, 5);
        // the fir is as high as 3 ahead of the first growing, and as high as 5 ahead of the second
        grown("h0,0;f0,3,0;l1,3,0;", 1, 5, 1);
        grown("h0,0;f0,3,0;l1,3,0;", 5, 5, 5);
    }

    private static void moves() {
        // dark at 1 and 2, LIGHT 4 elsewhere; of two that had least the first, to the least of the places
        SunHouses x = Due.village("h0,0;m0,7,0;v3;v1;v2;");
        Due.is("the first year", x.years(1), 1);
        Due.is("who stays", x.house(0, 0), 3);
        Due.is("who moved", x.house(1, 0), 0);
        Due.is("how often", x.house(1, 2), 1);
        Due.is("who waits", x.house(2, 0), 2);
        Due.is("light of the one who stays", x.house(0, 1), 4);
        Due.is("light of the one who moved", x.house(1, 1), 0);
        Due.is("the second year", x.years(1), 1);
        Due.is("who moved then", x.house(2, 0), 4);
        Due.is("light behind a year at the new place", x.house(1, 1), 4);
        Due.is("the third year", x.years(1), 0);
        Due.is("count(4)", x.count(4), 2);
        Due.is("light then", x.house(2, 1), 4);
        // least in THIS year, not in all
        SunHouses y = Due.village("h0,0;m0,4,0;v1;v5;");
        y.years(1);
        Due.is("all light", y.years(1), 0);
        y.carry(1, 1);
        Due.is("the one that had more in all", y.years(1), 1);
        Due.is("it moved", y.house(1, 2), 1);
        // one who has least and can't have more keeps the others from moving
        SunHouses z = Due.village("h0,0;v0;v1;");
        Due.is("none moves", z.years(20), 0);
        Due.is("no houses, none moves", Due.village("h0,0;f0,9,0;").years(20), 0);
        // a place with a tree may be moved to
        SunHouses w = Due.village("h4,0;f0,30,0;f1,30,0;v5;");
        w.years(1);
        Due.is("to the tree's place", w.house(0, 0), 0);
        Due.is("count(4) of the first house", w.count(4), 1);
        w.undo();
        Due.is("count(4), undone", w.count(4), 0);
    }

    private static void passesYears() {
        SunHouses x = new SunHouses();
        Due.is("no hill ahead of BAD", x.years(0), STATE);
        Due.tell(x, "h0,0;f3,2,1;v5;");
        Due.is("years(0)", x.years(0), BAD);
        Due.is("years(21)", x.years(21), BAD);
        Due.is("years(-1)", x.years(-1), BAD);
        for (int n = 0; n < 49; n++) {
            x.years(20);
        }
        Due.is("year 980", x.count(3), 980);
        Due.is("beyond 999", x.years(20), FULL);
        Due.is("BAD ahead of FULL", x.years(21), BAD);
        Due.is("year 980 yet", x.count(3), 980);
        x.years(19);
        Due.is("year 999", x.count(3), 999);
        Due.is("one more", x.years(1), FULL);
        Due.is("the fir's age", x.tree(0, 2), 1000);
        Due.is("24 can be undone", x.count(5), 24);
        Due.is("undone", x.undo(), 23);
        Due.is("year 998", x.count(3), 998);
        Due.isTrue("a year more fits again", x.years(1) >= 0);
    }

    private static void plants() {
        SunHouses x = new SunHouses();
        Due.is("no hill ahead of BAD", x.plant(99, 99), STATE);
        Due.tell(x, "h0,0;f3,2,1;");
        Due.is("place 12", x.plant(12, 1), BAD);
        Due.is("place -1", x.plant(-1, 1), BAD);
        Due.is("kind 0", x.plant(0, 0), BAD);
        Due.is("kind 6", x.plant(0, 6), BAD);
        Due.is("BAD ahead of STATE", x.plant(3, 6), BAD);
        Due.is("there is one", x.plant(3, 5), STATE);
        for (int k = 1; k <= 5; k++) {
            Due.is("plant", x.plant(3 + k, k), k);
            Due.is("its kind", x.kind(k), k);
            Due.is("its place", x.tree(k, 0), 3 + k);
            Due.is("its height", x.tree(k, 1), 0);
            Due.is("its age", x.tree(k, 2), 0);
        }
        Due.is("there are 6", x.plant(0, 1), FULL);
        Due.is("there is one, ahead of FULL", x.plant(4, 1), STATE);
        Due.is("six acts less one", x.count(5), 5);
        Due.is("place with it", x.place(8, 1), 5);
    }

    private static void fells() {
        SunHouses x = new SunHouses();
        Due.is("no hill", x.fell(0), BAD);
        Due.tell(x, "h0,0;f3,2,1;o4,3,2;l5,4,3;");
        Due.is("fell(3)", x.fell(3), BAD);
        Due.is("fell(-1)", x.fell(-1), BAD);
        Due.is("fell(1)", x.fell(1), 2);
        Due.is("the one behind it", x.kind(1), 3);
        Due.is("its place", x.tree(1, 0), 5);
        Due.is("its height", x.tree(1, 1), 4);
        Due.is("its age", x.tree(1, 2), 3);
        Due.is("the one ahead", x.kind(0), 1);
        Due.is("no third", x.kind(2), BAD);
        Due.is("no tree there", x.place(4, 1), NONE);
        Due.is("fell(1) again", x.fell(1), 1);
        Due.is("fell(0)", x.fell(0), 0);
        Due.is("fell(0) of none", x.fell(0), BAD);
    }

    private static void carries() {
        SunHouses x = new SunHouses();
        Due.is("no hill", x.carry(0, 0), BAD);
        Due.tell(x, "h0,0;f3,9,1;v1;v4;");
        Due.is("house 2", x.carry(2, 0), BAD);
        Due.is("house -1", x.carry(-1, 0), BAD);
        Due.is("place 12", x.carry(0, 12), BAD);
        Due.is("place -1", x.carry(0, -1), BAD);
        Due.is("another's place", x.carry(0, 4), STATE);
        Due.is("its own place", x.carry(0, 1), STATE);
        Due.is("to a tree's place", x.carry(0, 3), 1);
        Due.is("it is there", x.house(0, 0), 3);
        Due.is("it did not move", x.house(0, 2), 0);
        Due.is("count(4)", x.count(4), 0);
        Due.is("to the place it left", x.carry(1, 1), 4);
        Due.is("place 1", x.place(1, 2), 1);
        Due.is("place 4", x.place(4, 2), NONE);
        Due.is("two acts", x.count(5), 2);
    }

    private static void undoesEach() {
        SunHouses x = Due.village("h1,1;f0,7,0;o2,12,19;l5,3,2;v3;v6;");
        String first = Due.picture(x);
        x.fell(1);
        Due.is("felled, undone", x.undo(), 0);
        Due.isTrue("as ahead of felling", first.equals(Due.picture(x)));
        x.plant(9, 4);
        Due.is("planted, undone", x.undo(), 0);
        Due.isTrue("as ahead of planting", first.equals(Due.picture(x)));
        x.carry(1, 11);
        Due.is("carried, undone", x.undo(), 0);
        Due.isTrue("as ahead of carrying", first.equals(Due.picture(x)));
        x.years(2);
        Due.is("a year of two, undone", x.undo(), 1);
        Due.is("year 1", x.count(3), 1);
        Due.is("the other, undone", x.undo(), 0);
        Due.isTrue("as ahead of two years", first.equals(Due.picture(x)));
        x.fell(9);
        x.plant(0, 1);
        x.carry(0, 3);
        x.years(0);
        Due.is("what is refused is no act", x.count(5), 0);
    }

    /** A village behind the first n of 29 acts; made anew for each look, since an object may be used for 512 calls. */
    private static SunHouses afterActs(int n) {
        SunHouses x = Due.village("h1,1;f0,7,0;o2,12,19;l5,3,2;b7,7,9;m9,4,0;f11,30,30;v3;v6;v10;");
        for (int act = 0; act < n; act++) {
            switch (act) {
                case 0: x.fell(2); break;
                case 2: x.plant(1, 3); break;
                case 3: x.carry(1, 11); break;
                default: x.years(1);
            }
        }
        return x;
    }

    private static void undoes() {
        Due.is("no hill", new SunHouses().undo(), STATE);
        Due.is("no acts", afterActs(0).undo(), STATE);
        Due.is("24 are kept", afterActs(29).count(5), 24);
        for (int undone = 1; undone <= 24; undone++) {
            SunHouses x = afterActs(29);
            for (int i = 1; i <= undone; i++) {
                Due.is("undo", x.undo(), 24 - i);
            }
            Due.isTrue("as it was, " + undone, Due.picture(afterActs(29 - undone)).equals(Due.picture(x)));
            if (undone == 24) {
                Due.is("no more", x.undo(), STATE);
                Due.is("year 2: the oldest are forgotten", x.count(3), 2);
            }
        }

        SunHouses y = Due.village("h1,1;f0,7,0;o2,12,19;l5,3,2;v3;v6;v10;");
        String first = Due.picture(y);
        y.fell(1);
        y.years(2);
        y.plant(2, 5);
        y.carry(2, 11);
        y.years(20);
        Due.is("24 kept of 25", y.count(5), 24);
        for (int i = 0; i < 24; i++) {
            y.undo();
        }
        Due.is("felled yet", y.count(1), 2);
        Due.isTrue("not the first", !first.equals(Due.picture(y)));
        y.plant(2, 5);
        Due.is("acts go on", y.count(5), 1);
        Due.is("undone at once", y.undo(), 0);
        Due.is("felled yet", y.count(1), 2);
    }

    private static void keepsImages() {
        SunHouses x = new SunHouses();
        Due.is("image(2)", x.image(2), BAD);
        Due.is("image(-1)", x.image(-1), BAD);
        Due.is("no hill", x.image(0), STATE);
        Due.is("restore(2)", x.restore(2), BAD);
        Due.is("restore(-1)", x.restore(-1), BAD);
        Due.is("none kept", x.restore(0), STATE);
        Due.tell(x, "h1,1;f0,7,0;l5,3,2;v3;v6;");
        x.years(3);
        String third = Due.picture(x);
        Due.is("image(0)", x.image(0), 1);
        Due.is("an image is no act", x.count(5), 3);
        Due.is("the other was not kept", x.restore(1), STATE);
        x.years(4);
        x.fell(0);
        String felled = Due.picture(x);
        Due.is("image(1)", x.image(1), 1);
        Due.is("restore(0)", x.restore(0), 1);
        Due.isTrue("as kept", third.equals(Due.picture(x)));
        Due.is("no act can be undone", x.count(5), 0);
        Due.is("undo", x.undo(), STATE);
        x.years(1);
        Due.tell(x, "h4,2;v0;");
        Due.is("restore(1) in place of another hill", x.restore(1), 1);
        Due.isTrue("as kept, its law too", felled.equals(Due.picture(x)));
        Due.is("restore(0) once more", x.restore(0), 1);
        Due.isTrue("as kept once more", third.equals(Due.picture(x)));
        x.years(1);
        x.image(0);
        String later = Due.picture(x);
        x.years(1);
        x.restore(0);
        Due.isTrue("the later image", later.equals(Due.picture(x)));
    }

    private static void refusesWrongNumbers() {
        SunHouses x = new SunHouses();
        Due.is("tree, no hill", x.tree(0, 0), BAD);
        Due.is("house, no hill", x.house(0, 0), BAD);
        Due.tell(x, "h1,1;f0,7,0;v3;");
        Due.is("tree(1, 0)", x.tree(1, 0), BAD);
        Due.is("tree(-1, 0)", x.tree(-1, 0), BAD);
        Due.is("tree(0, 3)", x.tree(0, 3), BAD);
        Due.is("tree(0, -1)", x.tree(0, -1), BAD);
        Due.is("house(1, 0)", x.house(1, 0), BAD);
        Due.is("house(-1, 0)", x.house(-1, 0), BAD);
        Due.is("house(0, 3)", x.house(0, 3), BAD);
        Due.is("house(0, -1)", x.house(0, -1), BAD);
        Due.is("place(12, 0)", x.place(12, 0), BAD);
        Due.is("place(-1, 0)", x.place(-1, 0), BAD);
        Due.is("place(0, 4)", x.place(0, 4), BAD);
        Due.is("place(0, -1)", x.place(0, -1), BAD);
        Due.is("count(7)", x.count(7), BAD);
        Due.is("count(-1)", x.count(-1), BAD);
        Due.is("count(1)", x.count(1), 1);
        Due.is("count(2)", x.count(2), 1);
    }
}
