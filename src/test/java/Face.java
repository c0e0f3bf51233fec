import java.util.ArrayList;
import java.util.List;

/** Which numbers each call of the face takes, as the document tells them. */
final class Face {
    private static final int MIN = Integer.MIN_VALUE, MAX = Integer.MAX_VALUE;

    /** What a number of a call is; the least and the most that are not BAD. */
    enum Number {
        ROW(0, 7), LANE(0, 2), SIZE(MIN, 40), ANY(MIN, MAX), BYTE(0, 255), YEARS(1, 20), SPOT(0, 11), SORT(1, 5),
        TREE(0, -1), HOUSE(0, -1), TWO(0, 1), THREE(0, 2), FOUR(0, 3), AHEAD(0, 30), NEXT_YEARS(1, 30), LIGHT(0, 4),
        TENTHS(0, 10), WATCHED(1, 16), KIND(0, 5), COUNTED(0, 6);

        final int least;
        private final int most;

        Number(int least, int most) {
            this.least = least;
            this.most = most;
        }

        /** Of TREES and HOUSES it hangs on how many there are. */
        int most(int trees, int houses) {
            return this == TREE ? trees - 1 : this == HOUSE ? houses - 1 : most;
        }
    }

    final String name;
    final boolean noHillAheadOfBad;
    final Number[] numbers;

    private Face(String name, boolean noHillAheadOfBad, Number... numbers) {
        this.name = name;
        this.noHillAheadOfBad = noHillAheadOfBad;
        this.numbers = numbers;
    }

    static List<Face> all() {
        List<Face> all = new ArrayList<>();
        all.add(new Face("row", false, Number.ROW, Number.LANE, Number.SIZE));
        all.add(new Face("set", false, Number.ROW, Number.ANY, Number.ANY));
        all.add(new Face("copy", false, Number.ROW, Number.ANY, Number.ROW, Number.ANY, Number.ANY));
        all.add(new Face("drop", false, Number.ROW));
        all.add(new Face("feed", false, Number.BYTE));
        all.add(new Face("hill", false));
        all.add(new Face("fault", false));
        all.add(new Face("years", true, Number.YEARS));
        all.add(new Face("plant", true, Number.SPOT, Number.SORT));
        all.add(new Face("fell", false, Number.TREE));
        all.add(new Face("carry", false, Number.HOUSE, Number.SPOT));
        all.add(new Face("undo", false));
        all.add(new Face("tree", false, Number.TREE, Number.THREE));
        all.add(new Face("house", false, Number.HOUSE, Number.THREE));
        all.add(new Face("place", true, Number.SPOT, Number.FOUR));
        all.add(new Face("light", true, Number.SPOT, Number.AHEAD));
        all.add(new Face("lives", false, Number.HOUSE, Number.AHEAD, Number.TWO));
        all.add(new Face("next", true, Number.TWO));
        all.add(new Face("best", false, Number.HOUSE, Number.NEXT_YEARS, Number.TWO));
        all.add(new Face("toFell", true, Number.SPOT, Number.LIGHT, Number.AHEAD, Number.TWO));
        all.add(new Face("seen", true, Number.ROW, Number.ANY));
        all.add(new Face("planted", true, Number.SORT, Number.SPOT, Number.LIGHT, Number.AHEAD));
        all.add(new Face("hidden", false, Number.TREE, Number.SPOT, Number.ROW, Number.ANY, Number.WATCHED));
        all.add(new Face("storms", true, Number.SPOT, Number.LIGHT, Number.AHEAD, Number.TENTHS, Number.TWO));
        all.add(new Face("image", false, Number.TWO));
        all.add(new Face("restore", false, Number.TWO));
        all.add(new Face("kind", false, Number.TREE));
        all.add(new Face("as", false, Number.TREE, Number.KIND));
        all.add(new Face("ask", false, Number.TREE, Number.TWO));
        all.add(new Face("trace", false, Number.ANY));
        all.add(new Face("count", false, Number.COUNTED));
        all.add(new Face("status", false));
        return all;
    }
}
