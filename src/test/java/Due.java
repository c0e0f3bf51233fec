/** What the tests share: telling which answers are not as due. */
final class Due {
    static final int NULL = -1000011, PLACE = -1000012, KIND = -1000013, SIZE = -1000014, STORE = -1000015;

    private static int wrong = 0;

    private Due() {
    }

    static void is(String call, int got, int want) {
        if (got != want) {
            wrong++;
            System.out.println(call + " answered " + got + ", due is " + want);
        }
    }

    static void isTrue(String what, boolean so) {
        if (!so) {
            wrong++;
            System.out.println("not so: " + what);
        }
    }

    /** Feeds a text and reads it. */
    static int tell(SunHouses x, String text) {
        for (int i = 0; i < text.length(); i++) {
            x.feed(text.charAt(i));
        }
        return x.hill();
    }

    static SunHouses village(String text) {
        SunHouses x = new SunHouses();
        isTrue("a hill: " + text, tell(x, text) >= 0);
        return x;
    }

    /** A row of bytes with these items. */
    static void fill(SunHouses x, int row, int... items) {
        x.row(row, 0, items.length);
        for (int i = 0; i < items.length; i++) {
            x.set(row, i, items[i]);
        }
    }

    /** All that can be asked of the hill as it is now, as one text. */
    static String picture(SunHouses x) {
        StringBuilder s = new StringBuilder();
        for (int t = 0; t < x.count(1); t++) {
            s.append(" t").append(x.kind(t)).append(',').append(x.tree(t, 0)).append(',')
                    .append(x.tree(t, 1)).append(',').append(x.tree(t, 2));
        }
        for (int h = 0; h < x.count(2); h++) {
            s.append(" h").append(x.house(h, 0)).append(',').append(x.house(h, 1)).append(',').append(x.house(h, 2));
        }
        for (int p = 0; p < 12; p++) {
            s.append(" p").append(x.place(p, 3));
        }
        return s.append(" y").append(x.count(3)).append(" m").append(x.count(4)).toString();
    }

    static void end() {
        System.out.println(wrong == 0 ? "all answers are as due" : wrong + " answers are not as due");
        if (wrong != 0) {
            System.exit(1);
        }
    }
}
