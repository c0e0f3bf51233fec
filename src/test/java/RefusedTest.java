import java.util.List;
import java.util.Map;
import java.util.function.Supplier;

/**
 * "What is refused, or found, changes nothing but status()", and "FORETOLD (nothing changes)": each such call in several
 * states, by all that can be seen behind it.
 */
public final class RefusedTest {
    private static final int MIN = Integer.MIN_VALUE, MAX = Integer.MAX_VALUE;
    private static final int BAD = SunHouses.BAD, STATE = SunHouses.STATE, FULL = SunHouses.FULL;

    private final String scene;
    private final Supplier<SunHouses> made;
    private final List<String> before;
    private final int status;
    private final int trees;
    private final int houses;

    private RefusedTest(String scene, Supplier<SunHouses> made) {
        this.scene = scene;
        this.made = made;
        before = Scenes.seenOf(made);
        SunHouses x = made.get();
        status = x.status();
        trees = x.count(1);
        houses = x.count(2);
    }

    public static void main(String[] args) {
        Map<String, Supplier<SunHouses>> scenes = Scenes.all();
        scenes.forEach((name, made) -> new RefusedTest(name, made).refusesWrongNumbers());
        RefusedTest fresh = new RefusedTest("new", scenes.get("new"));
        fresh.refusesWithoutHill();
        new RefusedTest("no hill, rows, a tape", Scenes::withoutHill).refusesWithoutHill();
        new RefusedTest("a village", Scenes::village).refusesInVillage();
        new RefusedTest("all full", Scenes::full).refusesWhenFull();
        new RefusedTest("the year 999", Scenes::last).refusesInLastYear();
        scenes.forEach((name, made) -> new RefusedTest(name, made).looks());
        Due.end();
    }

    /** A call that is refused (answer BAD, STATE, FULL), or found (then status() tells its number). */
    private void refused(int answer, Call c) {
        String what = scene + ", " + c;
        SunHouses x = made.get();
        Due.is(what, c.on(x), answer);
        Due.is(what + ", status() behind it", x.status(), answer <= Due.NULL && answer >= Due.STORE ? -1000010 - answer : status);
        Scenes.same(what, before, () -> {
            SunHouses y = made.get();
            c.on(y);
            return y;
        });
    }

    private void refused(int answer, String name, int... numbers) {
        refused(answer, new Call(name, numbers));
    }

    /** Each number of each call, just below and just beyond what is right, the smallest int and the largest. */
    private void refusesWrongNumbers() {
        boolean hill = made.get().place(0, 0) != STATE;
        for (Face f : Face.all()) {
            Call right = new Call(f.name, new int[f.numbers.length]);
            for (int i = 0; i < f.numbers.length; i++) {
                right = right.with(i, Math.max(0, f.numbers[i].least));
            }
            for (int i = 0; i < f.numbers.length; i++) {
                int answer = f.noHillAheadOfBad && !hill ? STATE : BAD;
                int least = f.numbers[i].least;
                int most = f.numbers[i].most(trees, houses);
                if (least > MIN) {
                    refused(answer, right.with(i, least - 1));
                    refused(answer, right.with(i, MIN));
                }
                if (most < MAX) {
                    refused(answer, right.with(i, most + 1));
                    refused(answer, right.with(i, MAX));
                }
            }
        }
    }

    private void refusesWithoutHill() {
        refused(STATE, "years", 1);
        refused(STATE, "plant", 0, 1);
        refused(STATE, "undo");
        refused(STATE, "place", 0, 0);
        refused(STATE, "light", 0, 0);
        refused(STATE, "next", 0);
        refused(STATE, "toFell", 0, 0, 0, 0);
        refused(STATE, "seen", 0, 0);
        refused(STATE, "planted", 1, 0, 0, 0);
        refused(STATE, "storms", 0, 0, 0, 0, 0);
        refused(STATE, "image", 0);
        refused(STATE, "image", 1);
        refused(STATE, "restore", 0);
        refused(STATE, "restore", 1);
    }

    private void refusesInVillage() {
        refused(STATE, "plant", 11, 1);
        refused(STATE, "plant", 5, 5);
        refused(STATE, "carry", 0, 9);
        refused(STATE, "carry", 1, 9);
        refused(Due.SIZE, "row", 0, 0, -1);
        refused(Due.SIZE, "row", 7, 2, MIN);
        refused(Due.NULL, "set", 3, 0, 1);
        refused(Due.PLACE, "set", 0, 5, 1);
        refused(Due.PLACE, "set", 0, -1, 1);
        refused(Due.PLACE, "set", 2, 40, 1);
        refused(Due.NULL, "copy", 0, 0, 3, 0, 1);
        refused(Due.NULL, "copy", 3, 0, 0, 0, 1);
        refused(Due.STORE, "copy", 0, 0, 1, 0, 5);
        refused(Due.STORE, "copy", 1, 0, 2, 0, 0);
        refused(Due.PLACE, "copy", 0, 0, 0, 1, 5);
        refused(Due.PLACE, "copy", 0, 1, 0, 0, 5);
        refused(Due.PLACE, "copy", 2, 0, 2, 0, 41);
        refused(Due.PLACE, "copy", 2, 0, 2, 1, MAX);
        refused(Due.NULL, "drop", 3);
        refused(Due.NULL, "drop", 7);
        refused(Due.NULL, "seen", 3, 0);
        refused(Due.PLACE, "seen", 2, 29);
        refused(Due.PLACE, "seen", 0, 0);
        refused(Due.NULL, "hidden", 0, 0, 7, 0, 1);
        refused(Due.PLACE, "hidden", 0, 0, 2, 25, 16);
        refused(Due.KIND, "as", 0, 1 + made.get().kind(0) % 5);
        refused(Due.KIND, "as", 2, 5);
    }

    private void refusesWhenFull() {
        refused(FULL, "feed", 0);
        refused(FULL, "feed", 255);
        refused(FULL, "plant", 1, 1);
        refused(STATE, "plant", 0, 1);
        refused(STATE, "carry", 0, made.get().house(1, 0));
        refused(Due.SIZE, "row", 7, 0, -1);
        refused(Due.PLACE, "set", 0, 0, 1);
        refused(Due.PLACE, "set", 7, 14, 1);
        refused(Due.STORE, "copy", 7, 0, 6, 0, 1);
    }

    private void refusesInLastYear() {
        refused(FULL, "years", 1);
        refused(FULL, "years", 20);
        refused(STATE, "restore", 0);
        refused(STATE, "restore", 1);
    }

    /** Calls that only look: with their least right numbers and their largest. */
    private void looks() {
        for (Face f : Face.all()) {
            switch (f.name) {
                case "row": case "set": case "copy": case "drop": case "feed": case "hill": case "years": case "plant":
                case "fell": case "carry": case "undo": case "image": case "restore": case "ask":
                    break;
                default:
                    look(f, true);
                    look(f, false);
            }
        }
    }

    private void look(Face f, boolean least) {
        int[] a = new int[f.numbers.length];
        for (int i = 0; i < a.length; i++) {
            a[i] = f.numbers[i] == Face.Number.ANY ? 0 : least ? f.numbers[i].least : f.numbers[i].most(trees, houses);
        }
        Call c = new Call(f.name, a);
        Scenes.same(scene + ", " + c, before, () -> {
            SunHouses y = made.get();
            c.on(y);
            return y;
        });
    }
}
