/** Promises 2 to 5 and 33: rows, and what status() tells of them. */
public final class RowsTest {
    private static final int MIN = Integer.MIN_VALUE, MAX = Integer.MAX_VALUE;

    public static void main(String[] args) {
        makes();
        sets();
        copies();
        drops();
        tellsStatus();
        Due.end();
    }

    private static void makes() {
        SunHouses x = new SunHouses();
        Due.is("row(0, 0, 0)", x.row(0, 0, 0), 0);
        Due.is("row(7, 2, 40)", x.row(7, 2, 40), 40);
        Due.is("count(0)", x.count(0), 2);
        Due.is("row(8, 0, 1)", x.row(8, 0, 1), SunHouses.BAD);
        Due.is("row(-1, 0, 1)", x.row(-1, 0, 1), SunHouses.BAD);
        Due.is("row(1, 3, 1)", x.row(1, 3, 1), SunHouses.BAD);
        Due.is("row(1, -1, 1)", x.row(1, -1, 1), SunHouses.BAD);
        Due.is("row(1, 0, 41)", x.row(1, 0, 41), SunHouses.BAD);
        Due.is("row(1, 0, MAX)", x.row(1, 0, MAX), SunHouses.BAD);
        Due.is("row(1, 0, -1)", x.row(1, 0, -1), Due.SIZE);
        Due.is("row(1, 0, MIN)", x.row(1, 0, MIN), Due.SIZE);
        Due.is("row(1, 3, -1), BAD goes ahead", x.row(1, 3, -1), SunHouses.BAD);
        Due.is("count(0) after refusals", x.count(0), 2);
        Due.is("row(7, 0, -1) leaves the row", x.row(7, 0, -1), Due.SIZE);
        Due.is("set(7, 39, 70000), an int yet", x.set(7, 39, 70000), 70000);
        Due.is("row(7, 2, 40) anew", x.row(7, 2, 40), 40);
        Due.is("count(0) with a row put in place", x.count(0), 2);
        beginsWithNoughts();
    }

    /** The place behind moss has LIGHT 0 for all time: HIDDEN finds nothing but noughts there. */
    private static void beginsWithNoughts() {
        SunHouses x = Due.village("h0,0;m0,30,0;m11,0,0;");
        x.row(7, 2, 16);
        Due.is("noughts at first", x.hidden(1, 1, 7, 0, 16), 62);
        for (int i = 0; i < 16; i++) {
            x.set(7, i, 5);
        }
        Due.is("no noughts", x.hidden(1, 1, 7, 0, 16), 0);
        x.row(7, 2, 16);
        Due.is("noughts again", x.hidden(1, 1, 7, 0, 16), 62);
        x.set(7, 15, 5);
        x.drop(7);
        x.row(7, 0, 16);
        Due.is("noughts behind a drop", x.hidden(1, 1, 7, 0, 16), 62);
    }

    private static void sets() {
        SunHouses x = new SunHouses();
        Due.is("set(0, 0, 1), missing", x.set(0, 0, 1), Due.NULL);
        Due.is("set(8, 0, 1)", x.set(8, 0, 1), SunHouses.BAD);
        Due.is("set(-1, 0, 1)", x.set(-1, 0, 1), SunHouses.BAD);
        x.row(0, 0, 3);
        x.row(1, 1, 3);
        x.row(2, 2, 3);
        Due.is("byte 127", x.set(0, 0, 127), 127);
        Due.is("byte 128", x.set(0, 0, 128), -128);
        Due.is("byte 256", x.set(0, 2, 256), 0);
        Due.is("byte -129", x.set(0, 2, -129), 127);
        Due.is("short 32768", x.set(1, 0, 32768), -32768);
        Due.is("short 65536", x.set(1, 0, 65536), 0);
        Due.is("int MIN", x.set(2, 0, MIN), MIN);
        Due.is("int MAX", x.set(2, 2, MAX), MAX);
        Due.is("set(0, 3, 1)", x.set(0, 3, 1), Due.PLACE);
        Due.is("set(0, -1, 1)", x.set(0, -1, 1), Due.PLACE);
        Due.is("set(0, MAX, 1)", x.set(0, MAX, 1), Due.PLACE);
        Due.is("set(0, MIN, 1)", x.set(0, MIN, 1), Due.PLACE);
        x.row(3, 0, 0);
        Due.is("set in an empty row", x.set(3, 0, 1), Due.PLACE);
    }

    /** The items of a row can be seen by SEEN alone: a bare hill has LIGHT 4 everywhere, now. */
    private static void copies() {
        SunHouses x = Due.village("h0,0;");
        Due.fill(x, 0, 1, 4, 4, 4, 4, 4, 4, 4, 4, 4, 4, 4, 4, 9);
        Due.is("as told at 1", x.seen(0, 1), 0);
        Due.is("not at 0", x.seen(0, 0), SunHouses.NONE);
        Due.is("copy within a row", x.copy(0, 0, 0, 1, 13), 13);
        Due.is("as they were ahead", x.seen(0, 2), 0);
        Due.is("the one at 1 is 1 now", x.seen(0, 1), SunHouses.NONE);
        Due.is("back again", x.copy(0, 1, 0, 0, 13), 13);
        Due.is("as at first", x.seen(0, 1), 0);
        x.row(1, 0, 12);
        Due.is("from a row to another", x.copy(0, 1, 1, 0, 12), 12);
        Due.is("there, too", x.seen(1, 0), 0);
        x.row(2, 1, 12);
        Due.is("STORE", x.copy(0, 0, 2, 0, 1), Due.STORE);
        Due.is("STORE ahead of PLACE", x.copy(0, -1, 2, 99, MIN), Due.STORE);
        Due.is("NULL ahead of STORE", x.copy(0, 0, 3, 0, 1), Due.NULL);
        Due.is("NULL of the first", x.copy(3, 0, 2, 0, -1), Due.NULL);
        Due.is("BAD ahead of NULL", x.copy(3, 0, 8, 0, 1), SunHouses.BAD);
        Due.is("BAD of the first", x.copy(-1, 0, 0, 0, 1), SunHouses.BAD);
        Due.is("i below 0", x.copy(0, -1, 1, 0, 1), Due.PLACE);
        Due.is("j below 0", x.copy(0, 0, 1, -1, 1), Due.PLACE);
        Due.is("n below 0", x.copy(0, 0, 1, 0, -1), Due.PLACE);
        Due.is("beyond the first's end", x.copy(0, 13, 1, 0, 2), Due.PLACE);
        Due.is("beyond the other's end", x.copy(0, 0, 1, 11, 2), Due.PLACE);
        Due.is("n that wraps around", x.copy(0, 1, 1, 1, MAX), Due.PLACE);
        Due.is("none, at the ends", x.copy(0, 14, 1, 12, 0), 0);
        Due.is("none, beyond an end", x.copy(0, 15, 1, 0, 0), Due.PLACE);
        Due.is("what was found changed nothing", x.seen(1, 0), 0);
    }

    private static void drops() {
        SunHouses x = new SunHouses();
        Due.is("drop(0), missing", x.drop(0), Due.NULL);
        Due.is("drop(8)", x.drop(8), SunHouses.BAD);
        Due.is("drop(-1)", x.drop(-1), SunHouses.BAD);
        x.row(0, 1, 17);
        x.set(0, 3, 5);
        Due.is("drop(0)", x.drop(0), 17);
        Due.is("count(0)", x.count(0), 0);
        Due.is("set in a dropped row", x.set(0, 0, 1), Due.NULL);
        Due.is("drop(0) again", x.drop(0), Due.NULL);
        x.row(0, 1, 0);
        Due.is("drop of an empty row", x.drop(0), 0);
        Due.is("drop(7), missing", x.drop(7), Due.NULL);
        x.row(7, 2, 40);
        x.row(6, 2, 40);
        Due.is("set(7, 39, 1)", x.set(7, 39, 1), 1);
        Due.is("copy(6 to 7)", x.copy(6, 0, 7, 0, 40), 40);
        Due.is("copy(7 to 6)", x.copy(7, 0, 6, 0, 40), 40);
        Due.is("drop(7)", x.drop(7), 40);
    }

    private static void tellsStatus() {
        SunHouses x = new SunHouses();
        Due.is("status at first", x.status(), 0);
        x.row(0, 0, -1);
        Due.is("SIZE", x.status(), 4);
        x.row(9, 0, 1);
        Due.is("BAD leaves it", x.status(), 4);
        x.seen(0, 0);
        Due.is("STATE leaves it", x.status(), 4);
        x.years(1);
        x.feed(300);
        Due.is("calls without a row leave it", x.status(), 4);
        x.row(0, 0, 12);
        Due.is("none", x.status(), 0);
        x.row(1, 1, 12);
        x.copy(0, 0, 1, 0, 1);
        Due.is("STORE", x.status(), 5);
        x.set(0, 0, 1);
        Due.is("none of set", x.status(), 0);
        x.set(0, 12, 1);
        Due.is("PLACE", x.status(), 2);
        x.copy(0, 0, 0, 1, 1);
        Due.is("none of copy", x.status(), 0);
        x.drop(5);
        Due.is("NULL", x.status(), 1);
        x.drop(1);
        Due.is("none of drop", x.status(), 0);
        Due.tell(x, "h0,0;f0,9,0;");
        x.as(0, 4);
        Due.is("KIND", x.status(), 3);
        x.as(1, 0);
        x.as(0, 6);
        Due.is("BAD as() leaves it", x.status(), 3);
        x.hidden(0, 0, 0, 0, 0);
        Due.is("BAD hidden() leaves it", x.status(), 3);
        x.as(0, 1);
        Due.is("none of as", x.status(), 0);
        x.seen(1, 0);
        Due.is("NULL of seen", x.status(), 1);
        x.seen(0, 0);
        Due.is("NONE is no finding", x.status(), 0);
        x.hidden(0, 0, 0, 12, 1);
        Due.is("PLACE of hidden", x.status(), 2);
        x.hidden(0, 0, 0, 0, 1);
        Due.is("none of hidden", x.status(), 0);
    }
}
