/**
 * The bounds of every number of every call: the least and the most that are right are taken, the first beyond on both
 * sides and the smallest and the largest int are refused; and the orders of refusals and findings.
 */
public final class BoundsTest {
    private static final int MIN = Integer.MIN_VALUE, MAX = Integer.MAX_VALUE;
    private static final int BAD = SunHouses.BAD, STATE = SunHouses.STATE, FULL = SunHouses.FULL, NONE = SunHouses.NONE;

    public static void main(String[] args) {
        tellsConstants();
        takesBounds();
        refusesBeyondBounds();
        asksForHillFirst();
        countsTreesAndHouses();
        ordersRefusals();
        ordersFindings();
        Due.end();
    }

    private static void tellsConstants() {
        Due.is("NONE", NONE, -1000000);
        Due.is("BAD", BAD, -1000001);
        Due.is("STATE", STATE, -1000002);
        Due.is("FULL", FULL, -1000003);
    }

    /** A village in which every right call can be done: all rows, an act to undo, images, room for trees and bytes. */
    private static SunHouses ready() {
        SunHouses x = Due.village(Scenes.THREE);
        x.carry(0, 8);
        x.image(0);
        x.image(1);
        for (int r = 0; r < 8; r++) {
            x.row(r, 0, 40);
        }
        return x;
    }

    private static Call right(Face f) {
        Call c = new Call(f.name, new int[f.numbers.length]);
        for (int i = 0; i < f.numbers.length; i++) {
            c = c.with(i, Math.max(0, f.numbers[i].least));
        }
        return c;
    }

    private static boolean isRefusal(int answer) {
        return answer <= BAD && answer >= Due.STORE;
    }

    private static void takesBounds() {
        for (Face f : Face.all()) {
            Call right = right(f);
            // KINDS are those of tree 0, a fir: taken as more than that it is found, not BAD
            for (int i = 0; i < f.numbers.length; i++) {
                int least = f.numbers[i].least;
                int most = f.numbers[i].most(3, 2);
                if (least > MIN) {
                    int answer = right.with(i, least).on(ready());
                    Due.isTrue(right.with(i, least) + " is right, answered " + answer, !isRefusal(answer));
                }
                if (most < MAX) {
                    int answer = right.with(i, most).on(ready());
                    boolean found = f.numbers[i] == Face.Number.KIND && answer == Due.KIND;
                    Due.isTrue(right.with(i, most) + " is right, answered " + answer, found || !isRefusal(answer));
                }
            }
        }
    }

    private static void refusesBeyondBounds() {
        for (Face f : Face.all()) {
            Call right = right(f);
            for (int i = 0; i < f.numbers.length; i++) {
                int least = f.numbers[i].least;
                int most = f.numbers[i].most(3, 2);
                int[] wrong = {least - 1, MIN, MIN + 1, most + 1, MAX, MAX - 1};
                for (int n = 0; n < wrong.length; n++) {
                    boolean bound = n < 3 ? least > MIN : most < MAX;
                    if (bound) {
                        Due.is("" + right.with(i, wrong[n]), right.with(i, wrong[n]).on(ready()), BAD);
                    }
                }
            }
        }
    }

    /** STATE without a hill, ahead of BAD, where it is told so; BAD, where no such thing is told. */
    private static void asksForHillFirst() {
        for (Face f : Face.all()) {
            Call right = right(f);
            if (f.noHillAheadOfBad) {
                Due.is("no hill, " + right, right.on(new SunHouses()), STATE);
            }
            for (int i = 0; i < f.numbers.length; i++) {
                int least = f.numbers[i].least;
                int most = f.numbers[i].most(0, 0);
                if (least > MIN) {
                    Call low = right.with(i, least - 1);
                    Due.is("no hill, " + low, low.on(new SunHouses()), f.noHillAheadOfBad ? STATE : BAD);
                }
                if (most < MAX) {
                    Call high = right.with(i, most + 1);
                    Due.is("no hill, " + high, high.on(new SunHouses()), f.noHillAheadOfBad ? STATE : BAD);
                }
            }
        }
    }

    /** "There is no such thing": the last tree, the last house and the first that is not, for each number of them. */
    private static void countsTreesAndHouses() {
        String[] trees = {"", "f1,5,0;", "o2,5,0;", "l3,5,0;", "b4,5,0;", "m5,5,0;", "f6,5,0;"};
        StringBuilder told = new StringBuilder("h0,0;");
        for (int n = 0; n <= 6; n++) {
            told.append(trees[n]);
            for (int t = -1; t <= 7; t++) {
                boolean is = t >= 0 && t < n;
                Due.isTrue(n + " trees, kind(" + t + ")", (Due.village(told.toString()).kind(t) == BAD) != is);
                Due.isTrue(n + " trees, fell(" + t + ")", (Due.village(told.toString()).fell(t) == BAD) != is);
                Due.isTrue(n + " trees, tree(" + t + ", 2)", (Due.village(told.toString()).tree(t, 2) == BAD) != is);
                Due.isTrue(n + " trees, as(" + t + ", 0)", (Due.village(told.toString()).as(t, 0) == BAD) != is);
                Due.isTrue(n + " trees, ask(" + t + ", 1)", (Due.village(told.toString()).ask(t, 1) == BAD) != is);
                Due.isTrue(n + " trees, hidden(" + t + ", ..)",
                        (Due.village(told.toString()).hidden(t, 0, 0, 0, 1) == BAD) != is);
            }
        }
        StringBuilder homes = new StringBuilder("h0,0;");
        for (int n = 0; n <= 4; n++) {
            homes.append(n == 0 ? "" : "v" + 2 * n + ";");
            for (int h = -1; h <= 5; h++) {
                boolean is = h >= 0 && h < n;
                Due.isTrue(n + " houses, house(" + h + ", 0)", (Due.village(homes.toString()).house(h, 0) == BAD) != is);
                Due.isTrue(n + " houses, carry(" + h + ", 1)", (Due.village(homes.toString()).carry(h, 1) == BAD) != is);
                Due.isTrue(n + " houses, lives(" + h + ", ..)", (Due.village(homes.toString()).lives(h, 1, 0) == BAD) != is);
                Due.isTrue(n + " houses, best(" + h + ", ..)", (Due.village(homes.toString()).best(h, 1, 0) == BAD) != is);
            }
        }
    }

    private static void ordersRefusals() {
        SunHouses none = new SunHouses();
        Due.is("image: BAD ahead of no hill", none.image(2), BAD);
        Due.is("restore: BAD ahead of none kept", none.restore(2), BAD);
        Due.is("image: no hill", none.image(1), STATE);
        Due.is("restore: none kept", none.restore(1), STATE);

        SunHouses x = Due.village("h0,0;f0,1,0;f1,1,0;f2,1,0;f3,1,0;f4,1,0;f5,1,0;v7;v8;");
        Due.is("plant: BAD of the kind ahead of there is one", x.plant(0, 6), BAD);
        Due.is("plant: BAD of the kind ahead of there are 6", x.plant(6, 0), BAD);
        Due.is("plant: BAD of the place ahead of there are 6", x.plant(12, 1), BAD);
        Due.is("plant: there is one ahead of there are 6", x.plant(5, 1), STATE);
        Due.is("plant: there are 6", x.plant(6, 1), FULL);
        Due.is("carry: BAD of the house ahead of there is one", x.carry(2, 7), BAD);
        Due.is("carry: there is one", x.carry(1, 7), STATE);

        SunHouses late = Scenes.last();
        Due.is("years: BAD ahead of FULL", late.years(21), BAD);
        Due.is("years: BAD ahead of FULL", late.years(0), BAD);
        Due.is("years: FULL", late.years(1), FULL);

        SunHouses tape = Scenes.full();
        Due.is("feed: BAD ahead of FULL", tape.feed(-1), BAD);
        Due.is("feed: BAD ahead of FULL", tape.feed(256), BAD);
        Due.is("feed: FULL", tape.feed(255), FULL);
    }

    private static void ordersFindings() {
        SunHouses x = Due.village("h0,0;f0,1,0;");
        Due.is("row: BAD of the row ahead of SIZE", x.row(8, 0, -1), BAD);
        Due.is("row: BAD of the lane ahead of SIZE", x.row(0, 3, -1), BAD);
        Due.is("set: NULL ahead of PLACE", x.set(0, -1, 0), Due.NULL);
        x.row(0, 0, 5);
        x.row(1, 1, 5);
        Due.is("copy: BAD of a ahead of NULL", x.copy(8, 0, 7, 0, 0), BAD);
        Due.is("copy: BAD of b ahead of NULL", x.copy(7, 0, -1, 0, 0), BAD);
        Due.is("copy: BAD ahead of PLACE", x.copy(0, 0, 8, 0, -1), BAD);
        Due.is("copy: NULL of a ahead of PLACE", x.copy(7, 0, 0, 0, 9), Due.NULL);
        Due.is("copy: NULL of b ahead of PLACE", x.copy(0, -1, 7, 0, 1), Due.NULL);
        Due.is("copy: NULL of both", x.copy(6, 0, 7, 0, 1), Due.NULL);
        Due.is("copy: STORE ahead of PLACE", x.copy(0, 0, 1, 0, 6), Due.STORE);
        Due.is("copy: STORE with none to copy", x.copy(0, 0, 1, 0, 0), Due.STORE);
        Due.is("copy: NULL of b ahead of STORE", x.copy(1, 0, 7, 0, 1), Due.NULL);
        Due.is("seen: BAD ahead of PLACE", x.seen(8, -1), BAD);
        Due.is("seen: NULL ahead of PLACE", x.seen(7, -1), Due.NULL);
        Due.is("seen: PLACE", x.seen(0, 0), Due.PLACE);
        Due.is("hidden: BAD of the tree ahead of NULL", x.hidden(1, 0, 7, 0, 1), BAD);
        Due.is("hidden: BAD of the place ahead of NULL", x.hidden(0, 12, 7, 0, 1), BAD);
        Due.is("hidden: BAD of n ahead of NULL", x.hidden(0, 0, 7, 0, 17), BAD);
        Due.is("hidden: BAD of n ahead of PLACE", x.hidden(0, 0, 0, 0, 0), BAD);
        Due.is("hidden: NULL ahead of PLACE", x.hidden(0, 0, 7, -1, 1), Due.NULL);
        Due.is("hidden: PLACE", x.hidden(0, 0, 0, 5, 1), Due.PLACE);
        Due.is("as: BAD of the tree ahead of KIND", x.as(1, 5), BAD);
        Due.is("as: KIND", x.as(0, 5), Due.KIND);
    }
}
