/** The boundary cases of "KINDS of TREES", "4 ASKS of TREES" and of promises 28 to 31. */
public final class AskedBoundsTest {
    private static final int NONE = SunHouses.NONE, BAD = SunHouses.BAD;
    private static final int MIN = Integer.MIN_VALUE, MAX = Integer.MAX_VALUE;
    // by KIND: its letter, and the BODIES of SIZE and of MARK
    private static final String LETTERS = ".folbm";
    private static final int[][] SIZES = {{}, {11, 10, 21, 20}, {12, 11, 10, 24, 21, 20}, {11, 10, 22, 21, 20}, {13, 10},
        {14, 13, 10}};
    private static final int[][] MARKS = {{}, {21, 20}, {24, 21, 20}, {22, 21, 20}, {23, 20, 13, 10}, {23, 20, 14, 13, 10}};

    public static void main(String[] args) {
        asksAtBounds();
        tracesBounds();
        refusedAsksLeaveTrace();
        traceOutlivesHills();
        kindsAreAsTold();
        takenAsWhatItIs();
        Due.end();
    }

    /** A village whose tree n is of a KIND at a PLACE, the others moss. */
    private static SunHouses with(int n, int kind, int place, int high) {
        StringBuilder s = new StringBuilder("h0,0;");
        for (int t = 0; t < 6; t++) {
            s.append(t == n ? LETTERS.charAt(kind) : 'm').append(t == n ? place : t == place ? 6 : t == 0 ? 7 : t);
            s.append(',').append(t == n ? high : 0).append(",0;");
        }
        return Due.village(s.toString());
    }

    private static int mark(int n, int kind, int place, int high) {
        switch (kind) {
            case 1: return n + high;
            case 2: return 2 * (n + high);
            case 3: return n + high - 1000;
            case 4: return n - (place - 100);
            default: return n - 2 * (place - 100);
        }
    }

    private static int size(int n, int kind, int place, int high) {
        switch (kind) {
            case 2: return -(place + mark(n, kind, place, high));
            case 4: return place - 100;
            case 5: return 2 * (place - 100);
            default: return place + mark(n, kind, place, high);
        }
    }

    /** The first tree and the last, the lowest place and the highest, no height and much. */
    private static void asksAtBounds() {
        for (int kind = 1; kind <= 5; kind++) {
            for (int n = 0; n < 6; n++) {
                for (int place : new int[] {0, 1, 11}) {
                    for (int high : new int[] {0, 1, 30}) {
                        SunHouses x = with(n, kind, place, high);
                        String what = "tree " + n + " of kind " + kind + " at " + place + ", " + high + " high";
                        Due.is(what + " SIZE", x.ask(n, 0), size(n, kind, place, high));
                        traced(x, what + " SIZE", SIZES[kind]);
                        Due.is(what + " MARK", x.ask(n, 1), mark(n, kind, place, high));
                        traced(x, what + " MARK", MARKS[kind]);
                    }
                }
            }
        }
        // HIGH of 60, and the number as it is then
        SunHouses x = Due.village("h0,0;m0,0,0;o1,30,20;");
        x.years(20);
        x.years(20);
        Due.is("60 high", x.ask(1, 1), 122);
        x.fell(0);
        Due.is("number 0 then", x.ask(0, 1), 120);
        x.undo();
        Due.is("number 1 again", x.ask(1, 1), 122);
    }

    private static void traced(SunHouses x, String what, int[] due) {
        for (int i = 0; i < 18; i++) {
            Due.is(what + " trace(" + i + ")", x.trace(i), i < due.length ? due[i] : NONE);
        }
    }

    private static void tracesBounds() {
        SunHouses x = new SunHouses();
        for (int i : new int[] {MIN, -1, 0, 1, 15, 16, 17, MAX}) {
            Due.is("empty at first, trace(" + i + ")", x.trace(i), NONE);
        }
        Due.tell(x, "h0,0;o0,1,0;");
        x.ask(0, 0);
        for (int i : new int[] {MIN, MIN + 1, -6, -1, 6, 15, 16, 17, MAX}) {
            Due.is("trace(" + i + ")", x.trace(i), NONE);
        }
        Due.is("the first", x.trace(0), 12);
        Due.is("the last", x.trace(5), 20);
        for (int n = 0; n < 30; n++) {
            x.ask(0, n % 2);
        }
        traced(x, "empty ahead of each", MARKS[2]);
    }

    private static void refusedAsksLeaveTrace() {
        SunHouses x = Due.village("h0,0;o0,1,0;");
        x.ask(0, 0);
        int[][] wrong = {{1, 0}, {-1, 0}, {6, 0}, {MIN, 0}, {MAX, 0}, {0, 2}, {0, -1}, {0, MIN}, {0, MAX}};
        for (int[] w : wrong) {
            Due.is("ask(" + w[0] + ", " + w[1] + ")", x.ask(w[0], w[1]), BAD);
            traced(x, "behind a refused ask", SIZES[2]);
        }
    }

    /** THE TRACE is empty ahead of an ask: nothing else empties it. */
    private static void traceOutlivesHills() {
        SunHouses x = Due.village("h0,0;b0,1,0;");
        x.ask(0, 1);
        x.fell(0);
        x.undo();
        x.years(1);
        x.as(0, 0);
        traced(x, "behind acts", MARKS[4]);
        Due.tell(x, "h0,0;");
        traced(x, "behind another hill", MARKS[4]);
        Due.is("no tree to ask", x.ask(0, 0), BAD);
        traced(x, "behind a refused ask", MARKS[4]);
    }

    private static void kindsAreAsTold() {
        for (int kind = 1; kind <= 5; kind++) {
            SunHouses x = Due.village("h0,0;");
            x.plant(11, kind);
            Due.is("planted", x.kind(0), kind);
            Due.is("told", with(5, kind, 0, 0).kind(5), kind);
            Due.is("beyond", x.kind(1), BAD);
            // taken as another it stays what it is
            x.as(0, 0);
            Due.is("taken as a tree", x.kind(0), kind);
            x.row(0, 0, 1);
            x.hidden(0, 0, 0, 0, 1);
            Due.is("looked at as others", x.kind(0), kind);
        }
    }

    private static void takenAsWhatItIs() {
        int[][] is = {{}, {0, 1}, {0, 1, 2}, {0, 1, 3}, {0, 4}, {0, 4, 5}};
        for (int kind = 1; kind <= 5; kind++) {
            for (int n : new int[] {0, 5}) {
                SunHouses x = with(n, kind, 3, 3);
                for (int as = 0; as <= 5; as++) {
                    boolean fits = false;
                    for (int k : is[kind]) {
                        fits |= k == as;
                    }
                    Due.is("kind " + kind + " as " + as, x.as(n, as), fits ? n : Due.KIND);
                    Due.is("status", x.status(), fits ? 0 : 3);
                }
                Due.is("as -1", x.as(n, -1), BAD);
                Due.is("as 6", x.as(n, 6), BAD);
                Due.is("as MIN", x.as(n, MIN), BAD);
                Due.is("as MAX", x.as(n, MAX), BAD);
                Due.is("no tree 6", x.as(6, 0), BAD);
            }
        }
    }
}
