/** Promises 28 to 31: kinds, asks and the trace. */
public final class AskedTest {
    private static final int NONE = SunHouses.NONE, BAD = SunHouses.BAD;
    private static final String ALL = "h0,0;f3,20,0;o4,9,0;l5,8,0;b6,7,0;m7,6,0;f1,0,0;";

    public static void main(String[] args) {
        tellsKinds();
        takesAs();
        asks();
        traces();
        Due.end();
    }

    private static void tellsKinds() {
        SunHouses x = new SunHouses();
        Due.is("no hill", x.kind(0), BAD);
        Due.tell(x, ALL);
        int[] kinds = {1, 2, 3, 4, 5, 1};
        for (int t = 0; t < 6; t++) {
            Due.is("kind(" + t + ")", x.kind(t), kinds[t]);
        }
        Due.is("kind(6)", x.kind(6), BAD);
        Due.is("kind(-1)", x.kind(-1), BAD);
    }

    private static void takesAs() {
        SunHouses x = new SunHouses();
        Due.is("no hill", x.as(0, 0), BAD);
        Due.tell(x, ALL);
        String[] fits = {"01", "012", "013", "04", "045", "01"};
        for (int t = 0; t < 6; t++) {
            for (int k = 0; k <= 5; k++) {
                boolean fit = fits[t].indexOf('0' + k) >= 0;
                Due.is("as(" + t + ", " + k + ")", x.as(t, k), fit ? t : Due.KIND);
                Due.is("status", x.status(), fit ? 0 : 3);
            }
        }
        Due.is("as(6, 0)", x.as(6, 0), BAD);
        Due.is("as(-1, 0)", x.as(-1, 0), BAD);
        Due.is("as(0, 6)", x.as(0, 6), BAD);
        Due.is("as(0, -1)", x.as(0, -1), BAD);
    }

    private static void asked(SunHouses x, int tree, int what, int answer, int... trace) {
        String call = "ask(" + tree + ", " + what + ")";
        Due.is(call, x.ask(tree, what), answer);
        for (int i = 0; i < trace.length; i++) {
            Due.is("trace(" + i + ") of " + call, x.trace(i), trace[i]);
        }
        Due.is("the end of the trace of " + call, x.trace(trace.length), NONE);
    }

    private static void asks() {
        SunHouses x = Due.village(ALL);
        // a fir: 3 + (0 + 20)
        asked(x, 0, 0, 23, 11, 10, 21, 20);
        asked(x, 0, 1, 20, 21, 20);
        // an oak: 0 - (4 + 2 * (1 + 9))
        asked(x, 1, 0, -24, 12, 11, 10, 24, 21, 20);
        asked(x, 1, 1, 20, 24, 21, 20);
        // a lime: 5 + (2 + 8 - 1000)
        asked(x, 2, 0, -985, 11, 10, 22, 21, 20);
        asked(x, 2, 1, -990, 22, 21, 20);
        // a bush: 6 - 100; 3 - that
        asked(x, 3, 0, -94, 13, 10);
        asked(x, 3, 1, 97, 23, 20, 13, 10);
        // moss: twice 7 - 100; 4 - that
        asked(x, 4, 0, -186, 14, 13, 10);
        asked(x, 4, 1, 190, 23, 20, 14, 13, 10);
        // the number is that of now
        x.fell(0);
        asked(x, 4, 1, 4, 21, 20);
        x.years(1);
        asked(x, 4, 0, 7, 11, 10, 21, 20);
    }

    private static void traces() {
        SunHouses x = new SunHouses();
        Due.is("trace at first", x.trace(0), NONE);
        Due.is("ask, no hill", x.ask(0, 0), BAD);
        Due.tell(x, ALL);
        x.ask(1, 0);
        Due.is("trace(5)", x.trace(5), 20);
        Due.is("ask(6, 0)", x.ask(6, 0), BAD);
        Due.is("ask(-1, 0)", x.ask(-1, 0), BAD);
        Due.is("ask(0, 2)", x.ask(0, 2), BAD);
        Due.is("ask(0, -1)", x.ask(0, -1), BAD);
        Due.is("what is refused leaves the trace", x.trace(5), 20);
        Due.is("trace(-1)", x.trace(-1), NONE);
        Due.is("trace(16)", x.trace(16), NONE);
        Due.is("trace(MAX)", x.trace(Integer.MAX_VALUE), NONE);
        Due.is("trace(MIN)", x.trace(Integer.MIN_VALUE), NONE);
        x.ask(3, 0);
        Due.is("empty ahead of the next", x.trace(2), NONE);
    }
}
