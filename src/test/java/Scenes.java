import java.util.ArrayList;
import java.util.LinkedHashMap;
import java.util.List;
import java.util.Map;
import java.util.function.Supplier;

/**
 * Objects in several states, made anew for each look at them (an object may be used for 512 calls alone), and all that
 * can be seen of one: its hill, its rows, its tape, its acts, its images, its trace and its latest fault.
 */
final class Scenes {
    static final String THREE = "h1,1;f3,7,0;o5,12,19;l6,3,2;v4;v7;";
    static final String ALL = "h4,2;f0,30,30;o11,0,0;l2,1,1;b3,2,2;m4,3,3;f10,4,4;v0;v1;v2;v11;";

    private Scenes() {
    }

    static Map<String, Supplier<SunHouses>> all() {
        Map<String, Supplier<SunHouses>> all = new LinkedHashMap<>();
        all.put("new", SunHouses::new);
        all.put("no hill, rows, a tape", Scenes::withoutHill);
        all.put("a hill alone", () -> Due.village("h0,0;"));
        all.put("a village", Scenes::village);
        all.put("all full", Scenes::full);
        all.put("the year 999", Scenes::last);
        return all;
    }

    static SunHouses withoutHill() {
        SunHouses x = new SunHouses();
        Due.tell(x, "h9");
        Due.fill(x, 0, 4, 3, 2, 1, 0);
        x.row(1, 1, 40);
        x.row(7, 2, 0);
        x.set(1, 39, 3);
        feed(x, "h1,1;f3,7,0;v");
        return x;
    }

    static SunHouses village() {
        SunHouses x = Due.village(THREE);
        x.image(0);
        x.years(2);
        x.plant(11, 4);
        x.image(1);
        x.fell(0);
        x.carry(1, 9);
        Due.fill(x, 0, 4, 3, 2, 1, 0);
        x.row(1, 1, 7);
        x.row(2, 2, 40);
        x.set(2, 39, 3);
        x.ask(0, 0);
        feed(x, "h1,1;f3,7,0;v");
        return x;
    }

    static SunHouses full() {
        SunHouses x = Due.village(ALL);
        x.image(1);
        x.carry(3, 5);
        x.years(20);
        x.years(5);
        x.image(0);
        x.ask(1, 1);
        for (int r = 0; r < 8; r++) {
            x.row(r, r % 3, 2 * r);
        }
        x.set(7, 13, 4);
        for (int i = 0; i < 120; i++) {
            x.feed(i % 2 == 0 ? ';' : 'h');
        }
        return x;
    }

    static SunHouses last() {
        SunHouses x = Due.village(THREE);
        for (int n = 0; n < 49; n++) {
            x.years(20);
        }
        x.years(19);
        Due.fill(x, 3, 1, 2, 3);
        return x;
    }

    static void feed(SunHouses x, String text) {
        for (int i = 0; i < text.length(); i++) {
            x.feed(text.charAt(i));
        }
    }

    /** All that can be seen but status(): that one a finding may change. */
    static List<String> seenOf(Supplier<SunHouses> scene) {
        List<String> all = new ArrayList<>();
        SunHouses x = scene.get();
        StringBuilder s = new StringBuilder("fault ").append(x.fault()).append(" trace");
        for (int i = 0; i < 17; i++) {
            s.append(' ').append(x.trace(i));
        }
        for (int what = 0; what <= 6; what++) {
            s.append(" count ").append(x.count(what));
        }
        all.add(s.toString());
        all.add(Due.picture(x));
        int acts = x.count(5);
        for (int n = 1; n <= acts + 1; n++) {
            all.add(undone(scene.get(), n));
        }
        for (int k = 0; k < 2; k++) {
            x = scene.get();
            all.add("image " + k + ": " + x.restore(k) + Due.picture(x));
        }
        all.add(tapeOf(scene.get()));
        for (int r = 0; r < 8; r++) {
            all.add("row " + r + ":" + rowOf(scene.get(), r));
        }
        return all;
    }

    private static String undone(SunHouses x, int n) {
        int left = 0;
        for (int i = 0; i < n; i++) {
            left = x.undo();
        }
        return "undone " + n + ": " + left + Due.picture(x);
    }

    /** What the tape holds shows in how it is read with some bytes more. */
    private static String tapeOf(SunHouses x) {
        feed(x, "9;");
        return "tape: " + x.count(6) + " " + x.hill() + " fault " + x.fault() + Due.picture(x);
    }

    /** A row's lane, its size, and which of its items are 0 to 4: a hill is told where some place has each LIGHT. */
    private static String rowOf(SunHouses x, int r) {
        x.hill();
        Due.tell(x, "h1,2;m0,30,0;");
        int[] placeOf = {1, 4, 5, 8, 0};
        StringBuilder s = new StringBuilder();
        int other = (r + 1) % 8;
        for (int i = 0; i <= 40; i++) {
            int item = 9;
            for (int v = 0; v < 5 && item == 9; v++) {
                int found = x.hidden(0, placeOf[v], r, i, 1);
                if (found < 0) {
                    s.append(" (").append(found).append(')');
                    for (int lane = 0; lane < 3; lane++) {
                        x.row(other, lane, 0);
                        s.append(' ').append(x.copy(r, 0, other, 0, 0));
                    }
                    return s.toString();
                }
                item = found == 62 ? v : item;
            }
            s.append(' ').append(item);
        }
        return s.append(" without an end").toString();
    }

    /** Compares what can be seen with and without a call behind the same scene. */
    static void same(String what, List<String> before, Supplier<SunHouses> behind) {
        List<String> after = seenOf(behind);
        Due.isTrue(what + ": as much to be seen", before.size() == after.size());
        for (int i = 0; i < Math.min(before.size(), after.size()); i++) {
            Due.isTrue(what + ": '" + before.get(i) + "' became '" + after.get(i) + "'", before.get(i).equals(after.get(i)));
        }
    }
}
