import java.util.Arrays;

/** One house a year after the sun; what each call answers stands in the document, by number of promise. */
public final class SunHouses {
    public static final int NONE = -1000000, BAD = -1000001, STATE = -1000002, FULL = -1000003;

    private static final int FOUND = -1000010, FAULTY = -1000100;
    private static final int FOUND_NULL = 1, FOUND_PLACE = 2, FOUND_KIND = 3, FOUND_SIZE = 4, FOUND_STORE = 5;

    private static final int MOST_ROWS = 8, MOST_ITEMS = 40, LANES = 3, MOST_BYTES = 120;
    private static final int PLACES = 12, SEASONS = 4, MOST_TREES = 6, MOST_HOUSES = 4;
    private static final int LAST_YEAR = 999, MOST_YEARS = 20, FARTHEST = 30, MOST_WATCHED = 16;
    private static final int MOST_ACTS = 24, IMAGES = 2, TENTHS = 10;

    private static final int FIR = 1, OAK = 2, LIME = 3, BUSH = 4, MOSS = 5;

    private final Rows rows = new Rows();
    private final Tape tape = new Tape();
    private final Hill now = new Hill();
    private final Hill then = new Hill();
    private final Acts acts = new Acts();
    private final int[] images = new int[IMAGES * Hill.CELLS];
    private final boolean[] imageKept = new boolean[IMAGES];
    private final Asks asks = new Asks();
    private boolean told = false;
    private int latestFault = 0;
    private int latestFinding = 0;

    public SunHouses() {
    }

    // ---- rows

    public int row(int row, int lane, int n) {
        if (!upTo(row, MOST_ROWS - 1) || !upTo(lane, LANES - 1) || n > MOST_ITEMS) {
            return BAD;
        }
        if (n < 0) {
            return found(FOUND_SIZE);
        }
        rows.make(row, lane, n);
        return fine(n);
    }

    public int set(int row, int i, int v) {
        if (!upTo(row, MOST_ROWS - 1)) {
            return BAD;
        }
        if (rows.isMissing(row)) {
            return found(FOUND_NULL);
        }
        if (!rows.holds(row, i, 1)) {
            return found(FOUND_PLACE);
        }
        return fine(rows.put(row, i, v));
    }

    public int copy(int a, int i, int b, int j, int n) {
        if (!upTo(a, MOST_ROWS - 1) || !upTo(b, MOST_ROWS - 1)) {
            return BAD;
        }
        if (rows.isMissing(a) || rows.isMissing(b)) {
            return found(FOUND_NULL);
        }
        if (!rows.sameLane(a, b)) {
            return found(FOUND_STORE);
        }
        if (!rows.holds(a, i, n) || !rows.holds(b, j, n)) {
            return found(FOUND_PLACE);
        }
        rows.bring(a, i, b, j, n);
        return fine(n);
    }

    public int drop(int row) {
        if (!upTo(row, MOST_ROWS - 1)) {
            return BAD;
        }
        if (rows.isMissing(row)) {
            return found(FOUND_NULL);
        }
        return fine(rows.remove(row));
    }

    // ---- hills, acts

    public int feed(int letter) {
        if (!upTo(letter, 255)) {
            return BAD;
        }
        if (tape.size >= MOST_BYTES) {
            return FULL;
        }
        return tape.add(letter);
    }

    public int hill() {
        Reader reader = new Reader(tape, then);
        boolean read = reader.readHill();
        tape.size = 0;
        if (!read) {
            latestFault = reader.fault;
            return FAULTY - reader.begin;
        }
        now.become(then);
        told = true;
        acts.forgetAll();
        return now.houses();
    }

    public int fault() {
        return latestFault;
    }

    public int years(int n) {
        if (!told) {
            return STATE;
        }
        if (n < 1 || n > MOST_YEARS) {
            return BAD;
        }
        if (now.year() + n > LAST_YEAR) {
            return FULL;
        }
        int moves = 0;
        for (int y = 0; y < n; y++) {
            acts.keep(now);
            if (now.passYear() != NONE) {
                moves++;
            }
        }
        return moves;
    }

    public int plant(int place, int kind) {
        if (!told) {
            return STATE;
        }
        if (!upTo(place, PLACES - 1) || !isSort(kind)) {
            return BAD;
        }
        if (now.treeAt(place) != NONE) {
            return STATE;
        }
        if (now.trees() >= MOST_TREES) {
            return FULL;
        }
        acts.keep(now);
        now.addTree(kind, place, 0, 0);
        return now.trees() - 1;
    }

    public int fell(int tree) {
        if (!isTree(tree)) {
            return BAD;
        }
        acts.keep(now);
        now.removeTree(tree);
        return now.trees();
    }

    public int carry(int house, int place) {
        if (!isHouse(house) || !upTo(place, PLACES - 1)) {
            return BAD;
        }
        if (now.houseAt(place) != NONE) {
            return STATE;
        }
        acts.keep(now);
        int before = now.home(house);
        now.settle(house, place);
        return before;
    }

    public int undo() {
        if (acts.held == 0) {
            return STATE;
        }
        acts.takeBack(now);
        return acts.held;
    }

    public int tree(int tree, int what) {
        if (!isTree(tree)) {
            return BAD;
        }
        switch (what) {
            case 0: return now.spot(tree);
            case 1: return now.high(tree);
            case 2: return now.age(tree);
            default: return BAD;
        }
    }

    public int house(int house, int what) {
        if (!isHouse(house)) {
            return BAD;
        }
        switch (what) {
            case 0: return now.home(house);
            case 1: return now.had(house);
            case 2: return now.moved(house);
            default: return BAD;
        }
    }

    public int place(int place, int what) {
        if (!told) {
            return STATE;
        }
        if (!upTo(place, PLACES - 1)) {
            return BAD;
        }
        switch (what) {
            case 0: return now.lightAt(place);
            case 1: return now.treeAt(place);
            case 2: return now.houseAt(place);
            case 3: return now.shadeAt(place);
            default: return BAD;
        }
    }

    // ---- foretold

    public int light(int place, int d) {
        if (!told) {
            return STATE;
        }
        if (!upTo(place, PLACES - 1) || !upTo(d, FARTHEST)) {
            return BAD;
        }
        then.become(now);
        then.growFor(d);
        return then.lightAt(place);
    }

    public int lives(int house, int d, int what) {
        if (!isHouse(house) || !upTo(d, FARTHEST) || !upTo(what, 1)) {
            return BAD;
        }
        then.become(now);
        then.passYears(d);
        return what == 0 ? then.home(house) : then.had(house);
    }

    public int next(int what) {
        if (!told) {
            return STATE;
        }
        if (!upTo(what, 1)) {
            return BAD;
        }
        then.become(now);
        for (int y = 1; y <= FARTHEST; y++) {
            int mover = then.passYear();
            if (mover != NONE) {
                return what == 0 ? y : mover;
            }
        }
        return NONE;
    }

    public int best(int house, int d, int what) {
        if (!isHouse(house) || d < 1 || d > FARTHEST || !upTo(what, 1)) {
            return BAD;
        }
        int bestPlace = NONE;
        int most = NONE;
        for (int p = 0; p < PLACES; p++) {
            int there = now.houseAt(p);
            if (there == NONE || there == house) {
                int had = hadIfAt(house, p, d);
                if (had > most) {
                    most = had;
                    bestPlace = p;
                }
            }
        }
        return what == 0 ? bestPlace : most;
    }

    public int toFell(int place, int v, int d, int what) {
        if (!told) {
            return STATE;
        }
        if (!isLightAhead(place, v, d) || !upTo(what, 1)) {
            return BAD;
        }
        int felled = fewestToFell(place, v, d);
        if (felled == NONE) {
            return NONE;
        }
        return what == 0 ? Integer.bitCount(felled) : felled;
    }

    public int seen(int row, int i) {
        if (!told) {
            return STATE;
        }
        if (!upTo(row, MOST_ROWS - 1)) {
            return BAD;
        }
        if (rows.isMissing(row)) {
            return found(FOUND_NULL);
        }
        if (!rows.holds(row, i, PLACES)) {
            return found(FOUND_PLACE);
        }
        return fine(firstYearLike(row, i));
    }

    public int planted(int kind, int place, int v, int d) {
        if (!told) {
            return STATE;
        }
        if (!isSort(kind) || !isLightAhead(place, v, d)) {
            return BAD;
        }
        int places = 0;
        for (int p = 0; p < PLACES; p++) {
            if (now.treeAt(p) == NONE) {
                then.become(now);
                then.addTree(kind, p, 0, 0);
                then.growFor(d);
                if (then.lightAt(place) == v) {
                    places |= 1 << p;
                }
            }
        }
        return places;
    }

    public int hidden(int tree, int place, int row, int i, int n) {
        if (!isTree(tree) || !upTo(place, PLACES - 1) || !upTo(row, MOST_ROWS - 1)
                || n < 1 || n > MOST_WATCHED) {
            return BAD;
        }
        if (rows.isMissing(row)) {
            return found(FOUND_NULL);
        }
        if (!rows.holds(row, i, n)) {
            return found(FOUND_PLACE);
        }
        int kinds = 0;
        for (int k = FIR; k <= MOSS; k++) {
            then.become(now);
            then.takeFor(tree, k);
            if (isWatched(place, row, i, n)) {
                kinds |= 1 << k;
            }
        }
        return fine(kinds);
    }

    public int storms(int place, int v, int d, int c, int what) {
        if (!told) {
            return STATE;
        }
        if (!isLightAhead(place, v, d) || !upTo(c, TENTHS) || !upTo(what, 1)) {
            return BAD;
        }
        int trees = now.trees();
        int above = 0;
        for (int felled = 0; felled < 1 << trees; felled++) {
            int fallen = Integer.bitCount(felled);
            int weight = power(c, fallen) * power(TENTHS - c, trees - fallen);
            if (weight > 0 && isLitWithout(felled, place, v, d)) {
                above += weight;
            }
        }
        int below = power(TENTHS, trees);
        int common = commonDivisor(above, below);
        int asked = what == 0 ? above : below;
        return common > 1 ? asked / common : asked;
    }

    public int image(int k) {
        if (!upTo(k, IMAGES - 1)) {
            return BAD;
        }
        if (!told) {
            return STATE;
        }
        now.storeIn(images, k * Hill.CELLS);
        imageKept[k] = true;
        return 1;
    }

    public int restore(int k) {
        if (!upTo(k, IMAGES - 1)) {
            return BAD;
        }
        if (!imageKept[k]) {
            return STATE;
        }
        now.fetchFrom(images, k * Hill.CELLS);
        acts.forgetAll();
        return 1;
    }

    // ---- asked

    public int kind(int tree) {
        return isTree(tree) ? now.sort(tree) : BAD;
    }

    public int as(int tree, int kind) {
        if (!isTree(tree) || !upTo(kind, MOSS)) {
            return BAD;
        }
        if (!Asks.isOne(now.sort(tree), kind)) {
            return found(FOUND_KIND);
        }
        return fine(tree);
    }

    public int ask(int tree, int what) {
        if (!isTree(tree) || !upTo(what, 1)) {
            return BAD;
        }
        return asks.begin(now, tree, what);
    }

    public int trace(int i) {
        return asks.traced(i);
    }

    public int count(int what) {
        switch (what) {
            case 0: return rows.present();
            case 1: return now.trees();
            case 2: return now.houses();
            case 3: return now.year();
            case 4: return now.allMoves();
            case 5: return acts.held;
            case 6: return tape.size;
            default: return BAD;
        }
    }

    public int status() {
        return latestFinding;
    }

    // ---- what several calls share

    private static boolean upTo(int v, int most) {
        return v >= 0 && v <= most;
    }

    private static boolean isSort(int kind) {
        return kind >= FIR && kind <= MOSS;
    }

    private static boolean isLightAhead(int place, int v, int d) {
        return upTo(place, PLACES - 1) && upTo(v, SEASONS) && upTo(d, FARTHEST);
    }

    // Without a HILL there are no trees and no houses, so that these two are enough there, too.
    private boolean isTree(int tree) {
        return tree >= 0 && tree < now.trees();
    }

    private boolean isHouse(int house) {
        return house >= 0 && house < now.houses();
    }

    private int found(int finding) {
        latestFinding = finding;
        return FOUND - finding;
    }

    private int fine(int answer) {
        latestFinding = 0;
        return answer;
    }

    private int hadIfAt(int house, int place, int d) {
        then.become(now);
        then.settle(house, place);
        then.passYears(d);
        return then.had(house) - now.had(house);
    }

    private boolean isLitWithout(int felled, int place, int v, int d) {
        then.become(now);
        then.removeTrees(felled);
        then.growFor(d);
        return then.lightAt(place) >= v;
    }

    private int fewestToFell(int place, int v, int d) {
        int trees = now.trees();
        for (int few = 0; few <= trees; few++) {
            for (int felled = 0; felled < 1 << trees; felled++) {
                if (Integer.bitCount(felled) == few && isLitWithout(felled, place, v, d)) {
                    return felled;
                }
            }
        }
        return NONE;
    }

    private int firstYearLike(int row, int i) {
        then.become(now);
        for (int y = 0; y <= FARTHEST; y++) {
            if (isLike(row, i)) {
                return y;
            }
            then.growTrees();
        }
        return NONE;
    }

    private boolean isLike(int row, int i) {
        for (int p = 0; p < PLACES; p++) {
            if (then.lightAt(p) != rows.item(row, i + p)) {
                return false;
            }
        }
        return true;
    }

    private boolean isWatched(int place, int row, int i, int n) {
        for (int y = 0; y < n; y++) {
            if (then.lightAt(place) != rows.item(row, i + y)) {
                return false;
            }
            then.growTrees();
        }
        return true;
    }

    private static int power(int base, int n) {
        int product = 1;
        for (int i = 0; i < n; i++) {
            product *= base;
        }
        return product;
    }

    private static int commonDivisor(int a, int b) {
        int x = a;
        int y = b;
        // Euclid's steps for two numbers of up to a million are some thirty at most.
        for (int step = 0; step < 64 && y != 0; step++) {
            int rest = x % y;
            x = y;
            y = rest;
        }
        return x;
    }

    /** ROWS 0 .. 7; a ROW keeps its room of 40 while it is missing, so that none is made anew. */
    private static final class Rows {
        private static final int MISSING = -1, BYTES = 0, SHORTS = 1;

        private final int[][] items = new int[MOST_ROWS][MOST_ITEMS];
        private final int[] lanes = new int[MOST_ROWS];
        private final int[] sizes = new int[MOST_ROWS];

        Rows() {
            Arrays.fill(lanes, MISSING);
        }

        void make(int row, int lane, int n) {
            lanes[row] = lane;
            sizes[row] = n;
            Arrays.fill(items[row], 0);
        }

        boolean isMissing(int row) {
            return lanes[row] == MISSING;
        }

        boolean sameLane(int a, int b) {
            return lanes[a] == lanes[b];
        }

        // i + n could wrap around, so that the end is looked at from the other side.
        boolean holds(int row, int i, int n) {
            return i >= 0 && n >= 0 && i <= sizes[row] && n <= sizes[row] - i;
        }

        int item(int row, int i) {
            return items[row][i];
        }

        int put(int row, int i, int v) {
            items[row][i] = narrowed(lanes[row], v);
            return items[row][i];
        }

        void bring(int a, int i, int b, int j, int n) {
            System.arraycopy(items[a], i, items[b], j, n);
        }

        int remove(int row) {
            lanes[row] = MISSING;
            return sizes[row];
        }

        int present() {
            int n = 0;
            for (int r = 0; r < MOST_ROWS; r++) {
                if (!isMissing(r)) {
                    n++;
                }
            }
            return n;
        }

        private static int narrowed(int lane, int v) {
            switch (lane) {
                case BYTES: return (byte) v;
                case SHORTS: return (short) v;
                default: return v;
            }
        }
    }

    /** THE TAPE. */
    private static final class Tape {
        private final int[] bytes = new int[MOST_BYTES];
        private int size = 0;

        int add(int letter) {
            bytes[size] = letter;
            size++;
            return size;
        }

        boolean isFigure(int i) {
            return i >= 0 && i < size && bytes[i] >= '0' && bytes[i] <= '9';
        }
    }

    /** Reads the tape TOKEN by TOKEN and stops at the first that has a FAULT, which `begin` and `fault` tell then. */
    private static final class Reader {
        private static final int END = -1, NUMBER = -2, NOTHING = -3;
        private static final int CANNOT_STAND = 1, NOT_AS_TOLD = 2, NO_ROOM = 3;
        private static final int MOST_FIGURES = 2;
        private static final int MOST_SLOPE = 4, MOST_WINTER = 2, MOST_HIGH = 30, MOST_AGE = 30;

        private final Tape tape;
        private final Hill hill;
        private int begin = 0;
        private int end = 0;
        private int token = END;
        private int value = 0;
        private int fault = 0;

        Reader(Tape tape, Hill hill) {
            this.tape = tape;
            this.hill = hill;
        }

        boolean readHill() {
            hill.clearAll();
            advance();
            if (!readLaw()) {
                return false;
            }
            // A tree, a house takes more than one byte, so that the tape's bytes are a bound of how many there are.
            for (int n = 0; n < MOST_BYTES && sortOf(token) != NONE; n++) {
                if (!readTree()) {
                    return false;
                }
            }
            for (int n = 0; n < MOST_BYTES && token == 'v'; n++) {
                if (!readHouse()) {
                    return false;
                }
            }
            return token == END || refuse(CANNOT_STAND);
        }

        private boolean readLaw() {
            if (!pass('h')) {
                return false;
            }
            int slope = number(MOST_SLOPE, 0);
            if (slope == NONE || !pass(',')) {
                return false;
            }
            int winter = number(MOST_WINTER, 0);
            if (winter == NONE || !pass(';')) {
                return false;
            }
            hill.setSun(slope, winter);
            return true;
        }

        private boolean readTree() {
            int sort = sortOf(token);
            if (hill.trees() >= MOST_TREES) {
                return refuse(NO_ROOM);
            }
            advance();
            int place = number(PLACES - 1, hill.treePlaces());
            if (place == NONE || !pass(',')) {
                return false;
            }
            int high = number(MOST_HIGH, 0);
            if (high == NONE || !pass(',')) {
                return false;
            }
            int age = number(MOST_AGE, 0);
            if (age == NONE || !pass(';')) {
                return false;
            }
            hill.addTree(sort, place, high, age);
            return true;
        }

        private boolean readHouse() {
            if (hill.houses() >= MOST_HOUSES) {
                return refuse(NO_ROOM);
            }
            advance();
            int place = number(PLACES - 1, hill.housePlaces());
            if (place == NONE || !pass(';')) {
                return false;
            }
            hill.addHouse(place);
            return true;
        }

        private boolean pass(int sign) {
            if (token != sign) {
                return refuse(CANNOT_STAND);
            }
            advance();
            return true;
        }

        private int number(int most, int taken) {
            if (token != NUMBER) {
                refuse(CANNOT_STAND);
                return NONE;
            }
            int n = value;
            if (n > most || (taken >> n & 1) != 0) {
                refuse(NOT_AS_TOLD);
                return NONE;
            }
            advance();
            return n;
        }

        private boolean refuse(int number) {
            fault = number;
            return false;
        }

        private void advance() {
            begin = end;
            if (begin >= tape.size) {
                token = END;
                return;
            }
            if (tape.isFigure(begin)) {
                readFigures();
                return;
            }
            int letter = tape.bytes[begin];
            boolean known = letter >= 'a' && letter <= 'z' || letter == ',' || letter == ';';
            token = known ? letter : NOTHING;
            end = begin + 1;
        }

        private void readFigures() {
            value = 0;
            for (int n = 0; n <= MOST_FIGURES && tape.isFigure(end); n++) {
                value = value * 10 + tape.bytes[end] - '0';
                end++;
            }
            token = end - begin > MOST_FIGURES ? NOTHING : NUMBER;
        }

        private static int sortOf(int letter) {
            switch (letter) {
                case 'f': return FIR;
                case 'o': return OAK;
                case 'l': return LIME;
                case 'b': return BUSH;
                case 'm': return MOSS;
                default: return NONE;
            }
        }
    }

    /** A HILL, whole in one row of cells, so that an ACT, an IMAGE and what is FORETOLD are one copy each. */
    private static final class Hill {
        // One more than can stand: PLANTED asks of one tree more, even when there are 6.
        private static final int TREE_ROOM = MOST_TREES + 1;
        private static final int YEAR = 0, TREES = 1, HOUSES = 2, FALL = 3;
        private static final int SORT = FALL + SEASONS, SPOT = SORT + TREE_ROOM;
        private static final int HIGH = SPOT + TREE_ROOM, AGE = HIGH + TREE_ROOM;
        private static final int HOME = AGE + TREE_ROOM, HAD = HOME + MOST_HOUSES, MOVED = HAD + MOST_HOUSES;
        private static final int CELLS = MOVED + MOST_HOUSES;

        private static final int SUN_FALLS = 3, ALL_SEASONS = (1 << SEASONS) - 1;
        private static final int OLD_OAK = 20, BUSH_BOUND = 8, BOUND = 60;

        private final int[] cells = new int[CELLS];
        private final int[] lights = new int[PLACES];
        private final int[] gains = new int[TREE_ROOM];

        int year() {
            return cells[YEAR];
        }

        int trees() {
            return cells[TREES];
        }

        int houses() {
            return cells[HOUSES];
        }

        int sort(int tree) {
            return cells[SORT + tree];
        }

        int spot(int tree) {
            return cells[SPOT + tree];
        }

        int high(int tree) {
            return cells[HIGH + tree];
        }

        int age(int tree) {
            return cells[AGE + tree];
        }

        int home(int house) {
            return cells[HOME + house];
        }

        int had(int house) {
            return cells[HAD + house];
        }

        int moved(int house) {
            return cells[MOVED + house];
        }

        int allMoves() {
            int n = 0;
            for (int h = 0; h < houses(); h++) {
                n += moved(h);
            }
            return n;
        }

        void clearAll() {
            Arrays.fill(cells, 0);
        }

        void become(Hill other) {
            System.arraycopy(other.cells, 0, cells, 0, CELLS);
        }

        void storeIn(int[] kept, int from) {
            System.arraycopy(cells, 0, kept, from, CELLS);
        }

        void fetchFrom(int[] kept, int from) {
            System.arraycopy(kept, from, cells, 0, CELLS);
        }

        void setSun(int slope, int winter) {
            for (int k = 0; k < SEASONS; k++) {
                cells[FALL + k] = Math.max(1, SUN_FALLS + winter * k - slope);
            }
        }

        void addTree(int sort, int place, int high, int age) {
            int tree = trees();
            if (tree >= TREE_ROOM) {
                return;
            }
            cells[SORT + tree] = sort;
            cells[SPOT + tree] = place;
            cells[HIGH + tree] = high;
            cells[AGE + tree] = age;
            cells[TREES] = tree + 1;
        }

        void removeTree(int tree) {
            int last = trees() - 1;
            for (int t = tree; t < last; t++) {
                cells[SORT + t] = cells[SORT + t + 1];
                cells[SPOT + t] = cells[SPOT + t + 1];
                cells[HIGH + t] = cells[HIGH + t + 1];
                cells[AGE + t] = cells[AGE + t + 1];
            }
            cells[TREES] = last;
        }

        // From the last on, since those behind a felled one become 1 less.
        void removeTrees(int felled) {
            for (int t = trees() - 1; t >= 0; t--) {
                if ((felled >> t & 1) != 0) {
                    removeTree(t);
                }
            }
        }

        void takeFor(int tree, int sort) {
            cells[SORT + tree] = sort;
        }

        void addHouse(int place) {
            int house = houses();
            if (house >= MOST_HOUSES) {
                return;
            }
            cells[HOME + house] = place;
            cells[HAD + house] = 0;
            cells[MOVED + house] = 0;
            cells[HOUSES] = house + 1;
        }

        void settle(int house, int place) {
            cells[HOME + house] = place;
        }

        int treeAt(int place) {
            for (int t = 0; t < trees(); t++) {
                if (spot(t) == place) {
                    return t;
                }
            }
            return NONE;
        }

        int houseAt(int place) {
            for (int h = 0; h < houses(); h++) {
                if (home(h) == place) {
                    return h;
                }
            }
            return NONE;
        }

        int treePlaces() {
            int places = 0;
            for (int t = 0; t < trees(); t++) {
                places |= 1 << spot(t);
            }
            return places;
        }

        int housePlaces() {
            int places = 0;
            for (int h = 0; h < houses(); h++) {
                places |= 1 << home(h);
            }
            return places;
        }

        // The cells are read without their names here: this is the innermost of all that is foretold.
        int shadeAt(int place) {
            int shade = 0;
            for (int t = 0; t < cells[TREES]; t++) {
                int d = place - cells[SPOT + t];
                for (int k = 0; k < SEASONS && d > 0; k++) {
                    if (cells[HIGH + t] > d * cells[FALL + k]) {
                        shade |= 1 << k;
                    }
                }
            }
            return shade;
        }

        int lightAt(int place) {
            return SEASONS - Integer.bitCount(shadeAt(place));
        }

        void passYears(int d) {
            for (int y = 0; y < d; y++) {
                passYear();
            }
        }

        /** A YEAR: which house MOVED, or NONE. */
        int passYear() {
            for (int p = 0; p < PLACES; p++) {
                lights[p] = lightAt(p);
            }
            int mover = moveOut(shareLight());
            growTrees();
            cells[YEAR]++;
            return mover;
        }

        /** Each house has its LIGHT: which had least, or NONE. */
        private int shareLight() {
            int least = NONE;
            int leastLight = SEASONS + 1;
            for (int h = 0; h < houses(); h++) {
                int light = lights[home(h)];
                cells[HAD + h] += light;
                if (light < leastLight) {
                    least = h;
                    leastLight = light;
                }
            }
            return least;
        }

        private int moveOut(int house) {
            if (house == NONE) {
                return NONE;
            }
            int place = NONE;
            int most = lights[home(house)];
            int taken = housePlaces();
            for (int p = 0; p < PLACES; p++) {
                if (lights[p] > most && (taken >> p & 1) == 0) {
                    place = p;
                    most = lights[p];
                }
            }
            if (place == NONE) {
                return NONE;
            }
            settle(house, place);
            cells[MOVED + house]++;
            return house;
        }

        /** As many YEARS as d for the trees alone: no house puts anything in the SHADE. */
        void growFor(int d) {
            for (int y = 0; y < d; y++) {
                growTrees();
            }
        }

        // All gains are known ahead of the growing, since a lime's hangs on how high the others are.
        void growTrees() {
            int n = trees();
            for (int t = 0; t < n; t++) {
                gains[t] = gainOf(t);
            }
            for (int t = 0; t < n; t++) {
                int bound = sort(t) == BUSH ? BUSH_BOUND : BOUND;
                if (high(t) < bound) {
                    cells[HIGH + t] = Math.min(bound, high(t) + gains[t]);
                }
                cells[AGE + t]++;
            }
        }

        private int gainOf(int tree) {
            switch (sort(tree)) {
                case FIR: return 2;
                case OAK: return age(tree) >= OLD_OAK ? 1 : 2;
                case LIME: return shadeAt(spot(tree)) == ALL_SEASONS ? 0 : 2;
                case BUSH: return 1;
                default: return 0;
            }
        }
    }

    /** The HILLS as they were ahead of the latest ACTS, in a ring of slots. */
    private static final class Acts {
        private final int[] kept = new int[MOST_ACTS * Hill.CELLS];
        private int first = 0;
        private int held = 0;

        void keep(Hill hill) {
            if (held >= MOST_ACTS) {
                first = (first + 1) % MOST_ACTS;
                held = MOST_ACTS - 1;
            }
            hill.storeIn(kept, slotOf(held));
            held++;
        }

        void takeBack(Hill hill) {
            if (held > 0) {
                held--;
                hill.fetchFrom(kept, slotOf(held));
            }
        }

        void forgetAll() {
            first = 0;
            held = 0;
        }

        private int slotOf(int n) {
            return (first + n) % MOST_ACTS * Hill.CELLS;
        }
    }

    /** ASKS of TREES, by BODIES, and THE TRACE that these leave. */
    private static final class Asks {
        private static final int MOST_TRACED = 16, MOST_DEEP = 16;
        private static final int SIZE = 0, MARK = 1;
        // By KIND: the KIND that it is, too; the BODY told for it, 0 where there is none.
        private static final int[] WIDER = {NONE, 0, 1, 1, 0, 4};
        private static final int[] SIZE_BODIES = {10, 11, 12, 0, 13, 14};
        private static final int[] MARK_BODIES = {20, 21, 24, 22, 23, 0};

        private final int[] numbers = new int[MOST_TRACED];
        private int used = 0;

        static boolean isOne(int sort, int kind) {
            int k = sort;
            for (int step = 0; step < WIDER.length && k >= 0 && k < WIDER.length; step++) {
                if (k == kind) {
                    return true;
                }
                k = WIDER[k];
            }
            return false;
        }

        int traced(int i) {
            return i >= 0 && i < used ? numbers[i] : NONE;
        }

        int begin(Hill hill, int tree, int what) {
            used = 0;
            return askAnew(hill, tree, what, 0);
        }

        private int askAnew(Hill hill, int tree, int what, int depth) {
            return body(hill, tree, bodyFor(hill.sort(tree), what), depth);
        }

        private static int bodyFor(int sort, int what) {
            int[] bodies = what == SIZE ? SIZE_BODIES : MARK_BODIES;
            int k = sort;
            for (int step = 0; step < WIDER.length && k > 0 && k < WIDER.length; step++) {
                if (bodies[k] != 0) {
                    return bodies[k];
                }
                k = WIDER[k];
            }
            return bodies[0];
        }

        // The BODIES lead no deeper than six; the bound is there lest a change of the tables could.
        private int body(Hill hill, int tree, int number, int depth) {
            if (depth > MOST_DEEP) {
                return NONE;
            }
            leave(number);
            int deeper = depth + 1;
            switch (number) {
                case 10: return hill.spot(tree);
                case 11: return body(hill, tree, 10, deeper) + askAnew(hill, tree, MARK, deeper);
                case 12: return -body(hill, tree, 11, deeper);
                case 13: return body(hill, tree, 10, deeper) - 100;
                case 14: return body(hill, tree, 13, deeper) * 2;
                case 20: return tree;
                case 21: return body(hill, tree, 20, deeper) + hill.high(tree);
                case 22: return body(hill, tree, 21, deeper) - 1000;
                case 23: return body(hill, tree, 20, deeper) - askAnew(hill, tree, SIZE, deeper);
                case 24: return body(hill, tree, 21, deeper) * 2;
                default: return NONE;
            }
        }

        private void leave(int number) {
            if (used < MOST_TRACED) {
                numbers[used] = number;
                used++;
            }
        }
    }
}
