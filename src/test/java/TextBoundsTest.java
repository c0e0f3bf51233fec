import java.util.Random;

/** The bounds of THE TAPE, of NUMBERS, of TREES and HOUSES in texts, and the FAULTS: each byte at each place. */
public final class TextBoundsTest {
    private static final String ALL = Scenes.ALL;
    private static final String LONGEST = "h04,02;f00,30,30;o01,00,00;l02,01,01;b03,02,02;m04,03,03;f11,29,29;v00;v01;v02;v11;";

    public static void main(String[] args) {
        readsNumbers();
        readsLetters();
        holdsPlacesOnce();
        holdsSixAndFour();
        endsEverywhere();
        tellsLeastFault();
        fillsTape();
        emptiesTape();
        readsSpoiltTexts();
        readsChanceTexts();
        Due.end();
    }

    /** A text is read behind another hill: either it is there then, or all stays; the Model tells which. */
    private static void read(String text) {
        SunHouses x = Due.village("h0,0;v5;");
        Model model = new Model();
        for (char c : text.toCharArray()) {
            Due.is("feed", x.feed(c), model.answer(new Call("feed", (int) c)));
        }
        int answer = model.answer(new Call("hill"));
        String what = "'" + text + "'";
        Due.is(what, x.hill(), answer);
        Due.is(what + " fault", x.fault(), model.answer(new Call("fault")));
        Due.is(what + " tape", x.count(6), 0);
        if (answer < 0) {
            Due.is(what + " stays", x.count(2), 1);
            Due.is(what + " stays", x.house(0, 0), 5);
            Due.is(what + " stays", x.count(1), 0);
            Due.is(what + " stays", x.place(11, 0), 4);
            return;
        }
        for (int t = 0; t <= model.answer(new Call("count", 1)); t++) {
            Due.is(what + " kind", x.kind(t), model.answer(new Call("kind", t)));
            for (int w = 0; w < 3; w++) {
                Due.is(what + " tree", x.tree(t, w), model.answer(new Call("tree", t, w)));
            }
        }
        for (int h = 0; h <= answer; h++) {
            Due.is(what + " house", x.house(h, 0), model.answer(new Call("house", h, 0)));
        }
        for (int p = 0; p < 12; p++) {
            Due.is(what + " shade", x.place(p, 3), model.answer(new Call("place", p, 3)));
        }
    }

    private static void refused(String text, int place, int fault) {
        SunHouses x = new SunHouses();
        Due.is("'" + text + "'", Due.tell(x, text), -1000100 - place);
        Due.is("fault of '" + text + "'", x.fault(), fault);
        read(text);
    }

    private static void good(String text, int houses) {
        SunHouses x = new SunHouses();
        Due.is("'" + text + "'", Due.tell(x, text), houses);
        Due.is("fault of '" + text + "'", x.fault(), 0);
        read(text);
    }

    /** Every number of one, two and three figures in one place of a text. */
    private static void numbers(String ahead, String behind, int most, int houses) {
        for (int n = 0; n <= 99; n++) {
            String two = "" + n / 10 + n % 10;
            for (String number : n < 10 ? new String[] {"" + n, two} : new String[] {two}) {
                if (n <= most) {
                    good(ahead + number + behind, houses);
                } else {
                    refused(ahead + number + behind, ahead.length(), 2);
                }
            }
        }
        for (String number : new String[] {"000", "001", "010", "100", "999", "0000", "1234567890"}) {
            refused(ahead + number + behind, ahead.length(), 1);
        }
        for (String none : new String[] {"", "-1", "+1", " 1", "a", ";", ","}) {
            refused(ahead + none + behind, ahead.length(), 1);
        }
        refused(ahead, ahead.length(), 1);
    }

    private static void readsNumbers() {
        numbers("h", ",0;", 4, 0);
        numbers("h0,", ";", 2, 0);
        numbers("h0,0;f", ",0,0;", 11, 0);
        numbers("h0,0;f0,", ",0;", 30, 0);
        numbers("h0,0;f0,0,", ";v0;", 30, 1);
        numbers("h0,0;v", ";", 11, 1);
    }

    /** Every byte where a law, a tree or a house can begin. */
    private static void readsLetters() {
        for (int b = 0; b < 256; b++) {
            char c = (char) b;
            if (c == 'h') {
                good(c + "0,0;", 0);
            } else {
                refused(c + "0,0;", 0, 1);
            }
            if ("folbm".indexOf(c) >= 0) {
                good("h0,0;" + c + "0,0,0;", 0);
                good("h0,0;f11,0,0;" + c + "0,0,0;", 0);
            } else if (c != 'v') {
                refused("h0,0;" + c + "0,0,0;", 5, 1);
                refused("h0,0;f11,0,0;" + c + "0,0,0;", 13, 1);
            }
            if (c == 'v') {
                good("h0,0;" + c + "0;", 1);
                good("h0,0;v11;" + c + "0;", 2);
            } else {
                refused("h0,0;v11;" + c + "0;", 9, 1);
            }
        }
    }

    private static void holdsPlacesOnce() {
        for (int p = 0; p < 12; p++) {
            for (int q = 0; q < 12; q++) {
                String trees = "h0,0;f" + p + ",1,1;";
                String houses = "h0,0;v" + p + ";";
                if (p == q) {
                    refused(trees + "m" + q + ",1,1;", trees.length() + 1, 2);
                    refused(houses + "v" + q + ";", houses.length() + 1, 2);
                } else {
                    good(trees + "m" + q + ",1,1;", 0);
                    good(houses + "v" + q + ";", 2);
                }
                good(trees + "v" + q + ";", 1);
            }
        }
        refused("h0,0;v5;v05;", 9, 2);
    }

    private static void holdsSixAndFour() {
        String five = "h0,0;f0,0,0;o1,0,0;l2,0,0;b3,0,0;m4,0,0;";
        String four = "v0;v1;v2;v3;";
        for (char c : "folbm".toCharArray()) {
            String six = five + c + "5,0,0;";
            good(five, 0);
            good(six, 0);
            good(six + four, 4);
            for (char d : "folbm".toCharArray()) {
                refused(six + d + "6,0,0;", six.length(), 3);
                refused(six + d, six.length(), 3);
                refused(six + d + d, six.length(), 3);
                // behind a house a tree cannot stand: the least of two faults
                refused(six + "v0;" + d + "6,0,0;", six.length() + 3, 1);
            }
        }
        good("h0,0;v0;v1;v2;", 3);
        good("h0,0;" + four, 4);
        refused("h0,0;" + four + "v4;", 17, 3);
        refused("h0,0;" + four + "v", 17, 3);
        refused("h0,0;" + four + "vv", 17, 3);
        refused("h0,0;" + four + "v0;", 17, 3);
        refused("h0,0;" + four + "f0,0,0;", 17, 1);
    }

    /** The end that comes too early has its FAULT where the bytes end. */
    private static void endsEverywhere() {
        // without a house at 1, so that the first figure of the last house's 11 is right by itself
        String text = ALL.replace("v1;", "v5;");
        for (int n = 0; n < text.length(); n++) {
            boolean whole = n > 0 && text.charAt(n - 1) == ';';
            if (whole) {
                read(text.substring(0, n));
            } else {
                refused(text.substring(0, n), n, 1);
            }
        }
        good(ALL, 4);
        good(LONGEST, 4);
        refused(LONGEST + ";", LONGEST.length(), 1);
    }

    /** The first TOKEN that has a FAULT, and of one TOKEN the least FAULT. */
    private static void tellsLeastFault() {
        refused("h5,!", 1, 2);
        refused("h5", 1, 2);
        refused("h0,9;?", 3, 2);
        refused("h0!9", 2, 1);
        refused("h0,0;99", 5, 1);
        refused("h0,0;999", 5, 1);
        refused("h99,99;f99,99,99;", 1, 2);
        refused("99", 0, 1);
        refused("h0,0;f0,0,0;f0,99,99;", 13, 2);
        refused("h0,0;f0,0 ,0;", 9, 1);
        refused("h0,0;f0,0,0 ;", 11, 1);
        refused("h0,0;v0;v12;v0;", 9, 2);
        refused("h0,0;v0;v0;v12;", 9, 2);
        refused("h0,0;v7 ;", 7, 1);
        refused("h0,0;v123;", 6, 1);
    }

    private static void fillsTape() {
        SunHouses x = new SunHouses();
        for (int n = 1; n <= 120; n++) {
            int letter = n <= LONGEST.length() ? LONGEST.charAt(n - 1) : '0';
            Due.is("feed the " + n + "th", x.feed(letter), n);
        }
        Due.is("the 121st", x.feed('0'), SunHouses.FULL);
        Due.is("the 121st, BAD", x.feed(256), SunHouses.BAD);
        Due.is("120 are there", x.count(6), 120);
        Due.is("a run of figures", x.hill(), -1000100 - LONGEST.length());
        Due.is("its fault", x.fault(), 1);
        Due.is("empty then", x.count(6), 0);
        Due.is("room again", Due.tell(x, LONGEST), 4);
    }

    /** A text read, well or not, leaves the tape empty: no byte of it is read again. */
    private static void emptiesTape() {
        SunHouses x = new SunHouses();
        Due.is("good", Due.tell(x, "h0,0;v1;"), 1);
        Due.is("empty behind a good one", x.count(6), 0);
        Due.is("nothing to read: a fault at 0", x.hill(), -1000100);
        Due.is("the hill stays", x.house(0, 0), 1);
        Due.is("spoilt", Due.tell(x, "h0,0;v1;v2;v12;"), -1000112);
        Due.is("empty behind a spoilt one", x.count(6), 0);
        Due.is("fault", x.fault(), 2);
        Due.is("good, without what was there", Due.tell(x, "h0,0;v3;"), 1);
        Due.is("the latest fault", x.fault(), 2);
        Due.is("spoilt in another way", Due.tell(x, "h0,0;v1;v2;v3;v4;v5;"), -1000117);
        Due.is("the latest fault then", x.fault(), 3);
        Due.is("and once more", x.hill(), -1000100);
        Due.is("the latest fault then", x.fault(), 1);
    }

    /** Each byte of a text in place of another, put between, or left out. */
    private static void readsSpoiltTexts() {
        for (String text : new String[] {ALL, LONGEST, "h0,0;f1,2,3;v4;"}) {
            for (int i = 0; i <= text.length(); i++) {
                String ahead = text.substring(0, i);
                String behind = text.substring(i);
                for (int b = 0; b < 256; b++) {
                    read(ahead + (char) b + behind);
                    if (i < text.length()) {
                        read(ahead + (char) b + behind.substring(1));
                    }
                }
                if (i < text.length()) {
                    read(ahead + behind.substring(1));
                }
            }
        }
    }

    /** Texts put together of parts, of which some are wrong. */
    private static void readsChanceTexts() {
        Random chance = new Random(7);
        String[] parts = {"h", "f", "o", "l", "b", "m", "v", ",", ";", "0", "5", "11", "12", "30", "31", "007", "x", " "};
        for (int n = 0; n < 20000; n++) {
            StringBuilder s = new StringBuilder(chance.nextInt(9) == 0 ? "" : "h1,2;");
            for (int t = chance.nextInt(8); t > 0; t--) {
                s.append("folbmv".charAt(chance.nextInt(chance.nextInt(4) == 0 ? 6 : 5)));
                s.append(chance.nextInt(13)).append(',').append(chance.nextInt(31)).append(',').append(chance.nextInt(31)).append(';');
            }
            for (int h = chance.nextInt(6); h > 0; h--) {
                s.append('v').append(chance.nextInt(13)).append(';');
            }
            if (chance.nextInt(2) == 0) {
                s.insert(chance.nextInt(s.length() + 1), parts[chance.nextInt(parts.length)]);
            }
            read(s.length() > 120 ? s.substring(0, 120) : s.toString());
        }
    }
}
