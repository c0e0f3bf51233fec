/** The boundary cases of "1 ROWS" and of promises 2 to 5 and 33. */
public final class RowsBoundsTest {
    private static final int MIN = Integer.MIN_VALUE, MAX = Integer.MAX_VALUE;
    private static final int BAD = SunHouses.BAD, STATE = SunHouses.STATE;
    // falls 2, 4, 6, 8: each LIGHT from 0 to 4 is at one of these places
    private static final String LIT = "h1,2;m0,30,0;";
    private static final int[] PLACE_OF = {1, 4, 5, 8, 0};

    public static void main(String[] args) {
        missingAtFirst();
        sizes();
        lanesKeepLowestBits();
        noughtsAtFirst();
        oneInPlaceOfAnother();
        rowsAreApart();
        copiesAllWays();
        copiesAtEnds();
        copiesByLane();
        tellsStatusOfEach();
        Due.end();
    }

    /** The item as LIGHT of 0 to 4, or -1 if it is another. */
    private static int item(SunHouses x, int row, int i) {
        for (int v = 0; v < 5; v++) {
            if (x.hidden(0, PLACE_OF[v], row, i, 1) == 62) {
                return v;
            }
        }
        return -1;
    }

    private static void items(SunHouses x, String what, int row, int... due) {
        for (int i = 0; i < due.length; i++) {
            Due.is(what + ", item " + i, item(x, row, i), due[i]);
        }
        Due.is(what + ", no item more", x.hidden(0, 0, row, due.length, 1), Due.PLACE);
    }

    private static void missingAtFirst() {
        SunHouses x = Due.village(LIT);
        for (int r = 0; r < 8; r++) {
            Due.is("set", x.set(r, 0, 0), Due.NULL);
            Due.is("status", x.status(), 1);
            Due.is("drop", x.drop(r), Due.NULL);
            Due.is("copy from", x.copy(r, 0, (r + 1) % 8, 0, 0), Due.NULL);
            Due.is("copy to itself", x.copy(r, 0, r, 0, 0), Due.NULL);
            Due.is("seen", x.seen(r, 0), Due.NULL);
            Due.is("hidden", x.hidden(0, 0, r, 0, 1), Due.NULL);
        }
        Due.is("none is there by that", x.count(0), 0);
    }

    private static void sizes() {
        for (int lane = 0; lane < 3; lane++) {
            for (int n = 0; n <= 40; n++) {
                SunHouses x = new SunHouses();
                Due.is("row", x.row(7, lane, n), n);
                Due.is("the first item", x.set(7, 0, 1), n > 0 ? 1 : Due.PLACE);
                Due.is("the last item", x.set(7, n - 1, 1), n > 0 ? 1 : Due.PLACE);
                Due.is("beyond it", x.set(7, n, 1), Due.PLACE);
                Due.is("below the first", x.set(7, -1, 1), Due.PLACE);
                Due.is("MIN", x.set(7, MIN, 1), Due.PLACE);
                Due.is("MAX", x.set(7, MAX, 1), Due.PLACE);
                Due.is("drop", x.drop(7), n);
            }
            SunHouses x = new SunHouses();
            Due.is("41", x.row(0, lane, 41), BAD);
            Due.is("MAX", x.row(0, lane, MAX), BAD);
            Due.is("-1", x.row(0, lane, -1), Due.SIZE);
            Due.is("MIN", x.row(0, lane, MIN), Due.SIZE);
            Due.is("missing yet", x.drop(0), Due.NULL);
        }
    }

    private static void lanesKeepLowestBits() {
        int[] v = {0, 1, -1, 127, 128, 255, 256, -128, -129, -256, 32767, 32768, 65535, 65536, -32768, -32769, MIN, MAX};
        int[] bytes = {0, 1, -1, 127, -128, -1, 0, -128, 127, 0, -1, 0, -1, 0, 0, -1, 0, -1};
        int[] shorts = {0, 1, -1, 127, 128, 255, 256, -128, -129, -256, 32767, -32768, -1, 0, -32768, 32767, 0, -1};
        SunHouses x = new SunHouses();
        x.row(0, 0, 1);
        x.row(1, 1, 1);
        x.row(2, 2, 1);
        for (int i = 0; i < v.length; i++) {
            Due.is("byte " + v[i], x.set(0, 0, v[i]), bytes[i]);
            Due.is("short " + v[i], x.set(1, 0, v[i]), shorts[i]);
            Due.is("int " + v[i], x.set(2, 0, v[i]), v[i]);
        }
    }

    private static void noughtsAtFirst() {
        for (int lane = 0; lane < 3; lane++) {
            SunHouses x = Due.village(LIT);
            x.row(3, lane, 40);
            for (int i = 0; i < 40; i++) {
                Due.is("0 at first", item(x, 3, i), 0);
            }
            x.row(3, lane, 40);
            for (int i = 0; i < 40; i++) {
                x.set(3, i, 4);
            }
            x.row(3, lane, 2);
            items(x, "anew, smaller", 3, 0, 0);
            x.set(3, 1, 2);
            x.drop(3);
            x.row(3, lane, 3);
            items(x, "anew behind a drop", 3, 0, 0, 0);
            x.row(3, lane, 40);
            Due.is("larger, nothing of the first", item(x, 3, 39), 0);
        }
    }

    private static void oneInPlaceOfAnother() {
        SunHouses x = Due.village(LIT);
        Due.fill(x, 0, 1, 2, 3);
        Due.is("BAD leaves it", x.row(0, 3, 3), BAD);
        Due.is("BAD leaves it", x.row(0, 0, 41), BAD);
        Due.is("SIZE leaves it", x.row(0, 2, -1), Due.SIZE);
        items(x, "as it was", 0, 1, 2, 3);
        Due.is("a byte yet", x.set(0, 0, 128), -128);
        Due.is("another", x.row(0, 1, 4), 4);
        items(x, "the other", 0, 0, 0, 0, 0);
        Due.is("a short", x.set(0, 0, 128), 128);
        Due.is("as large as none", x.row(0, 2, 0), 0);
        items(x, "the empty one", 0);
        Due.is("one row", x.count(0), 1);
        Due.is("an empty row is no missing one", x.drop(0), 0);
        Due.is("a dropped one is", x.drop(0), Due.NULL);
    }

    private static void rowsAreApart() {
        SunHouses x = Due.village(LIT);
        for (int r = 0; r < 8; r++) {
            x.row(r, 0, 2);
            x.set(r, 0, r % 5);
            x.set(r, 1, (r + 1) % 5);
        }
        x.drop(4);
        for (int r = 0; r < 8; r++) {
            if (r != 4) {
                items(x, "row " + r, r, r % 5, (r + 1) % 5);
            }
        }
        Due.is("seven rows", x.count(0), 7);
        // another hill leaves the rows
        Due.tell(x, LIT);
        items(x, "row 3 yet", 3, 3, 4);
    }

    /** From each place to each other, as many as there can be and one more, within a row and to another one. */
    private static void copiesAllWays() {
        int[] from = {4, 3, 2, 1, 0};
        int[] other = {1, 1, 2, 2};
        for (int i = -1; i <= 6; i++) {
            for (int j = -1; j <= 6; j++) {
                SunHouses x = Due.village(LIT);
                for (int n = -1; n <= 6; n++) {
                    copied(x, i, j, n, from, from, true);
                    if (n % 2 == 0) {
                        x = Due.village(LIT);
                    }
                    copied(x, i, j, n, from, other, false);
                }
            }
        }
    }

    private static void copied(SunHouses x, int i, int j, int n, int[] from, int[] to, boolean within) {
        Due.fill(x, 0, from);
        Due.fill(x, 1, to);
        int b = within ? 0 : 1;
        boolean right = i >= 0 && j >= 0 && n >= 0 && i + n <= from.length && j + n <= to.length;
        String what = "copy(0, " + i + ", " + b + ", " + j + ", " + n + ")";
        Due.is(what, x.copy(0, i, b, j, n), right ? n : Due.PLACE);
        Due.is(what + " status", x.status(), right ? 0 : 2);
        int[] due = to.clone();
        for (int k = 0; right && k < n; k++) {
            due[j + k] = from[i + k];
        }
        items(x, what, b, due);
        items(x, what + ", the other row", 1 - b, within ? to : from);
    }

    private static void copiesAtEnds() {
        SunHouses x = new SunHouses();
        x.row(0, 2, 40);
        x.row(1, 2, 40);
        x.row(2, 2, 0);
        int[] wrong = {MIN, MIN + 1, -1, 41, MAX - 40, MAX - 1, MAX};
        for (int w : wrong) {
            Due.is("i " + w, x.copy(0, w, 1, 0, 0), Due.PLACE);
            Due.is("j " + w, x.copy(0, 0, 1, w, 0), Due.PLACE);
            Due.is("n " + w, x.copy(0, 0, 1, 0, w), Due.PLACE);
            Due.is("i and n " + w, x.copy(0, w, 1, 0, w), Due.PLACE);
            Due.is("all " + w, x.copy(0, w, 1, w, w), Due.PLACE);
            Due.is("n from 1 on " + w, x.copy(0, 1, 1, 1, w), Due.PLACE);
            Due.is("of an empty row, " + w, x.copy(2, 0, 2, 0, w), Due.PLACE);
        }
        Due.is("all 40", x.copy(0, 0, 1, 0, 40), 40);
        Due.is("all 40 to itself", x.copy(0, 0, 0, 0, 40), 40);
        Due.is("the last", x.copy(0, 39, 1, 39, 1), 1);
        Due.is("none at the end", x.copy(0, 40, 1, 40, 0), 0);
        Due.is("none of none", x.copy(2, 0, 2, 0, 0), 0);
        Due.is("one of none", x.copy(2, 0, 1, 0, 1), Due.PLACE);
        Due.is("one to none", x.copy(1, 0, 2, 0, 1), Due.PLACE);
        Due.is("none beyond the end of none", x.copy(2, 1, 1, 0, 0), Due.PLACE);
    }

    private static void copiesByLane() {
        for (int a = 0; a < 3; a++) {
            for (int b = 0; b < 3; b++) {
                SunHouses x = new SunHouses();
                x.row(0, a, 3);
                x.row(7, b, 3);
                Due.is("lanes " + a + " and " + b, x.copy(0, 0, 7, 0, 3), a == b ? 3 : Due.STORE);
                Due.is("status", x.status(), a == b ? 0 : 5);
                Due.is("none of them", x.copy(0, 0, 7, 0, 0), a == b ? 0 : Due.STORE);
            }
        }
    }

    /** From each status that there is: what every call with a row makes of it, and what all others leave. */
    private static void tellsStatusOfEach() {
        Call[] givers = {new Call("set", 0, 0, 4), new Call("set", 7, 0, 0), new Call("set", 0, 40, 0),
            new Call("as", 0, 4), new Call("row", 6, 0, -1), new Call("copy", 0, 0, 1, 0, 1)};
        for (int s = 0; s < givers.length; s++) {
            int[] numbers = {0, 1, 2, 3, 4, 5};
            becomes(givers[s], numbers[s], 0, new Call("row", 5, 0, 3), new Call("set", 1, 0, 9), new Call("drop", 2),
                    new Call("copy", 0, 0, 0, 1, 3), new Call("seen", 0, 0), new Call("hidden", 0, 0, 0, 0, 1),
                    new Call("hidden", 0, 1, 0, 0, 16), new Call("as", 0, 0), new Call("as", 0, 1));
            becomes(givers[s], numbers[s], 1, new Call("set", 7, 0, 0), new Call("copy", 7, 0, 0, 0, 1),
                    new Call("drop", 7), new Call("seen", 7, 0), new Call("hidden", 0, 0, 7, 0, 1));
            becomes(givers[s], numbers[s], 2, new Call("set", 0, -1, 0), new Call("copy", 0, 0, 0, 0, 41),
                    new Call("seen", 0, 29), new Call("hidden", 0, 0, 0, 40, 1));
            becomes(givers[s], numbers[s], 3, new Call("as", 0, 2), new Call("as", 0, 5));
            becomes(givers[s], numbers[s], 4, new Call("row", 0, 0, -1));
            becomes(givers[s], numbers[s], 5, new Call("copy", 1, 0, 0, 0, 1));
            becomes(givers[s], numbers[s], numbers[s], new Call("row", 8, 0, 1), new Call("row", 0, 0, 41),
                    new Call("set", -1, 0, 0), new Call("copy", 0, 0, 8, 0, 1), new Call("drop", 8), new Call("seen", 8, 0),
                    new Call("hidden", 1, 0, 0, 0, 1), new Call("hidden", 0, 0, 0, 0, 17), new Call("as", 1, 0),
                    new Call("as", 0, 6), new Call("feed", 1), new Call("feed", 256), new Call("hill"), new Call("fault"),
                    new Call("years", 1), new Call("years", 0), new Call("plant", 0, 1), new Call("plant", 5, 1),
                    new Call("fell", 0), new Call("fell", 1), new Call("carry", 0, 1), new Call("carry", 0, 0),
                    new Call("undo"), new Call("tree", 0, 0), new Call("house", 0, 0), new Call("place", 0, 0),
                    new Call("light", 0, 0), new Call("lives", 0, 0, 0), new Call("next", 0), new Call("best", 0, 1, 0),
                    new Call("toFell", 0, 0, 0, 0), new Call("planted", 1, 0, 0, 0), new Call("storms", 0, 0, 0, 0, 0),
                    new Call("image", 0), new Call("restore", 0), new Call("kind", 0), new Call("ask", 0, 0),
                    new Call("ask", 1, 0), new Call("trace", 0), new Call("count", 0), new Call("count", 7),
                    new Call("status"));
        }
        SunHouses none = new SunHouses();
        Due.is("at first", none.status(), 0);
        none.row(0, 0, -1);
        Due.is("STATE", none.seen(7, 0), STATE);
        Due.is("STATE leaves it", none.status(), 4);
    }

    private static void becomes(Call giver, int number, int due, Call... calls) {
        for (Call c : calls) {
            SunHouses x = Due.village("h0,0;f0,2,0;v0;");
            x.row(0, 0, 40);
            x.row(1, 1, 40);
            x.row(2, 2, 40);
            giver.on(x);
            Due.is("status of " + giver, x.status(), number);
            c.on(x);
            Due.is("status of " + giver + ", " + c, x.status(), due);
        }
    }
}
