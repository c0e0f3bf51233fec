import java.util.List;
import java.util.Random;

/** Chance runs of 512 calls, with numbers at and beyond the bounds, each answer against the Model's. */
public final class ModelTest {
    private static final int MIN = Integer.MIN_VALUE, MAX = Integer.MAX_VALUE, MOST_CALLS = 512;
    private static final List<Face> FACES = Face.all();
    private static final String SORTS = "folbm";

    private final Random chance;
    private final int seed;
    private final SunHouses x = new SunHouses();
    private final Model model = new Model();
    private final StringBuilder story = new StringBuilder();
    private int calls = 0;
    private boolean agreed = true;

    private ModelTest(int seed) {
        this.seed = seed;
        chance = new Random(seed);
    }

    public static void main(String[] args) {
        int runs = args.length > 1 ? Integer.parseInt(args[1]) : 400;
        for (int seed = 0; seed < runs; seed++) {
            new ModelTest(seed).run();
        }
        Due.end();
    }

    private void run() {
        int quiet = chance.nextInt(3);
        if (quiet != 0) {
            tellHill();
        }
        while (agreed && calls < MOST_CALLS) {
            int which = chance.nextInt(FACES.size() + 6);
            if (which < FACES.size()) {
                callOne(FACES.get(which));
            } else if (which == FACES.size() && chance.nextInt(6) == 0) {
                tellHill();
            } else if (which == FACES.size() + 1) {
                fillRow();
            } else if (which == FACES.size() + 2) {
                call(new Call("years", 1 + chance.nextInt(20)));
            } else if (which == FACES.size() + 3) {
                call(new Call("as", chance.nextInt(6), chance.nextInt(6)));
            }
        }
    }

    private void call(Call c) {
        if (!agreed || calls >= MOST_CALLS) {
            return;
        }
        calls++;
        int got = c.on(x);
        int want = model.answer(c);
        if (got != want) {
            agreed = false;
            Due.is("run " + seed + ", call " + calls + " " + c + " behind" + story, got, want);
        }
        if (!c.name.equals("feed")) {
            story.append(' ').append(c);
        }
    }

    private void callOne(Face f) {
        // A text is read, and the tape thrown away with it, seldom enough to let the tape become long.
        if (f.name.equals("hill") && chance.nextInt(20) != 0) {
            return;
        }
        int[] a = new int[f.numbers.length];
        boolean wild = chance.nextInt(4) == 0;
        for (int i = 0; i < a.length; i++) {
            a[i] = number(f.numbers[i], wild && chance.nextInt(2) == 0);
        }
        call(new Call(f.name, a));
    }

    private int number(Face.Number n, boolean wild) {
        int least = n.least;
        // Asked of the Model: the object may be used for 512 calls alone.
        int most = n.most(model.answer(new Call("count", 1)), model.answer(new Call("count", 2)));
        if (n == Face.Number.SIZE || n == Face.Number.ANY) {
            int[] some = {MIN, MAX, -1, 0, 0, 0, 0, 12, 28, 39, 40, 41};
            return chance.nextBoolean() ? some[chance.nextInt(some.length)] : chance.nextInt(41);
        }
        if (wild) {
            int[] some = {MIN, MAX, least - 1, most + 1, -most, most + 256};
            return some[chance.nextInt(some.length)];
        }
        return most < least ? 0 : least + chance.nextInt(most - least + 1);
    }

    private void tellHill() {
        String text = hillText();
        boolean spoilt = chance.nextInt(5) == 0;
        for (int i = 0; i < text.length(); i++) {
            boolean here = spoilt && chance.nextInt(text.length()) == 0;
            call(new Call("feed", here ? chance.nextInt(256) : text.charAt(i)));
        }
        story.append(" \"").append(text).append(spoilt ? "\" (spoilt)" : "\"");
        call(new Call("hill"));
        call(new Call("fault"));
    }

    private String hillText() {
        StringBuilder s = new StringBuilder("h").append(chance.nextInt(5)).append(',').append(chance.nextInt(3)).append(';');
        int trees = chance.nextInt(7);
        int start = chance.nextInt(12);
        for (int t = 0; t < trees; t++) {
            s.append(SORTS.charAt(chance.nextInt(5))).append((start + 5 * t) % 12).append(',');
            s.append(chance.nextInt(chance.nextBoolean() ? 31 : 9)).append(',').append(chance.nextInt(31)).append(';');
        }
        int houses = chance.nextInt(5);
        for (int h = 0; h < houses; h++) {
            s.append('v').append((start + 7 * h) % 12).append(';');
        }
        return s.toString();
    }

    /** LIGHT as it will be, so that SEEN and HIDDEN find something. */
    private void fillRow() {
        int row = chance.nextInt(8);
        int d = chance.nextInt(31);
        int n = 12 + chance.nextInt(29);
        int from = chance.nextInt(n - 11);
        boolean watched = chance.nextBoolean();
        int place = chance.nextInt(12);
        call(new Call("row", row, chance.nextInt(3), n));
        for (int i = 0; i < 12; i++) {
            call(new Call("set", row, from + i, watched ? model.answer(new Call("light", place, i))
                    : model.answer(new Call("light", i, d))));
        }
        if (watched) {
            call(new Call("hidden", chance.nextInt(6), place, row, from, 1 + chance.nextInt(12)));
        } else {
            call(new Call("seen", row, from));
        }
    }
}
