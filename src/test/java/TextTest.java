/** Promises 1 and 6 to 8: the tape, texts and their faults. */
public final class TextTest {
    public static void main(String[] args) {
        begins();
        feeds();
        reads();
        refuses();
        replaces();
        Due.end();
    }

    private static void begins() {
        SunHouses x = new SunHouses();
        for (int what = 0; what <= 6; what++) {
            Due.is("count(" + what + ") at first", x.count(what), 0);
        }
        Due.is("fault at first", x.fault(), 0);
        Due.is("no hill", x.place(0, 0), SunHouses.STATE);
        Due.is("no hill, ahead of BAD", x.place(99, 99), SunHouses.STATE);
    }

    private static void feeds() {
        SunHouses x = new SunHouses();
        Due.is("feed(0)", x.feed(0), 1);
        Due.is("feed(255)", x.feed(255), 2);
        Due.is("feed(256)", x.feed(256), SunHouses.BAD);
        Due.is("feed(-1)", x.feed(-1), SunHouses.BAD);
        for (int n = 3; n <= 120; n++) {
            Due.is("feed more", x.feed('a'), n);
        }
        Due.is("feed the 121st", x.feed('a'), SunHouses.FULL);
        Due.is("BAD ahead of FULL", x.feed(256), SunHouses.BAD);
        Due.is("count(6)", x.count(6), 120);
        Due.is("hill of a full tape", x.hill(), -1000100);
        Due.is("count(6) then", x.count(6), 0);
        Due.is("feed then", x.feed('h'), 1);
    }

    private static void reads() {
        Due.is("a law alone", Due.tell(new SunHouses(), "h4,2;"), 0);
        Due.is("figures with a nought ahead", Due.tell(new SunHouses(), "h04,02;f00,07,00;v01;"), 1);
        Due.is("houses alone", Due.tell(new SunHouses(), "h0,0;v0;v11;v5;v3;"), 4);
        SunHouses x = new SunHouses();
        Due.is("all there is room for",
                Due.tell(x, "h0,0;f0,30,30;o1,0,0;l2,1,1;b3,2,2;m4,3,3;f11,4,4;v0;v1;v2;v11;"), 4);
        Due.is("six trees", x.count(1), 6);
        Due.is("four houses", x.count(2), 4);
        int[] kinds = {1, 2, 3, 4, 5, 1};
        int[] places = {0, 1, 2, 3, 4, 11};
        int[] highs = {30, 0, 1, 2, 3, 4};
        int[] ages = {30, 0, 1, 2, 3, 4};
        for (int t = 0; t < 6; t++) {
            Due.is("kind", x.kind(t), kinds[t]);
            Due.is("place", x.tree(t, 0), places[t]);
            Due.is("high", x.tree(t, 1), highs[t]);
            Due.is("age", x.tree(t, 2), ages[t]);
        }
        Due.is("no fault yet", x.fault(), 0);
    }

    private static void refused(String text, int place, int fault) {
        SunHouses x = Due.village("h1,1;f3,5,7;v2;");
        x.years(1);
        String before = Due.picture(x);
        Due.is("hill of " + text, Due.tell(x, text), -1000100 - place);
        Due.is("fault of " + text, x.fault(), fault);
        Due.is("tape behind " + text, x.count(6), 0);
        Due.is("acts behind " + text, x.count(5), 1);
        Due.isTrue("all stays behind " + text, before.equals(Due.picture(x)));
    }

    private static void refuses() {
        refused("", 0, 1);
        refused("h", 1, 1);
        refused("H0,0;", 0, 1);
        refused(" h0,0;", 0, 1);
        refused("f0,0,0;", 0, 1);
        refused("h,0;", 1, 1);
        refused("hh", 1, 1);
        refused("h5,9;", 1, 2);
        refused("h99", 1, 2);
        refused("h123", 1, 1);
        refused("h000,0;", 1, 1);
        refused("h1234,0;", 1, 1);
        refused("h0;0;", 2, 1);
        refused("h0,3;", 3, 2);
        refused("h0,0,", 4, 1);
        refused("h0,0", 4, 1);
        refused("h0,0;h0,0;", 5, 1);
        refused("h0,0; ", 5, 1);
        refused("h0,0;7", 5, 1);
        refused("h0,0;;", 5, 1);
        refused("h0,0;a0,0,0;", 5, 1);
        refused("h0,0;f", 6, 1);
        refused("h0,0;f12,0,0;", 6, 2);
        refused("h0,0;f0,31,0;", 8, 2);
        refused("h0,0;f0,0,31;", 10, 2);
        refused("h0,0;f0,0,0", 11, 1);
        refused("h0,0;f0,0,0,", 11, 1);
        refused("h0,0;f0,0;", 9, 1);
        refused("h0,0;f7,0,0;o07,0,0;", 13, 2);
        refused("h0,0;f7,0,0;o07", 13, 2);
        refused("h0,0;v12;", 6, 2);
        refused("h0,0;v0,", 7, 1);
        refused("h0,0;v3;v3;", 9, 2);
        refused("h0,0;v3;f0,0,0;", 8, 1);
        refused("h0,0;v0;v1;v2;v3;v4;", 17, 3);
        refused("h0,0;v0;v1;v2;v3;v", 17, 3);
        refused("h0,0;v0;v1;v2;v3;f", 17, 1);
        refused("h0,0;f0,0,0;f1,0,0;f2,0,0;f3,0,0;f4,0,0;f5,0,0;m5", 47, 3);
        refused("h0,0;f0,0,0;f1,0,0;f2,0,0;f3,0,0;f4,0,0;f5,0,0;v0;m", 50, 1);
        refused("h0,\u00e90;", 3, 1);
        refused("h0,0;f0,0,0;v0;\u0000", 15, 1);
    }

    private static void replaces() {
        SunHouses x = Due.village("h1,1;f0,30,7;v1;v2;");
        x.years(3);
        Due.tell(x, "x");
        Due.is("a fault", x.fault(), 1);
        Due.is("another hill", Due.tell(x, "h0,0;v4;"), 1);
        Due.is("the latest fault stays", x.fault(), 1);
        Due.is("year", x.count(3), 0);
        Due.is("trees", x.count(1), 0);
        Due.is("houses", x.count(2), 1);
        Due.is("moved", x.count(4), 0);
        Due.is("acts", x.count(5), 0);
        Due.is("light had", x.house(0, 1), 0);
        Due.is("nothing to undo", x.undo(), SunHouses.STATE);
        Due.tell(x, "h9");
        Due.is("a later fault", x.fault(), 2);
    }
}
