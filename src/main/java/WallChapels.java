import java.util.NoSuchElementException;

/**
 * A twisting town whose dead ends are chapels: ../shared/DOC.md says what every call answers.
 *
 * <p>All rows are made in the constructors and used again: no call makes an object, but for the
 * exception of {@link #walker}.
 */
public final class WallChapels {
    public static final int NONE = -1;
    public static final int HIDDEN = -1000000;

    private static final int TOWN_TEXT = 0;
    private static final int LAW_TEXT = 1;
    private static final int WALK_TEXT = 2;

    private static final int MOST_BYTES = 240;
    private static final int MOST_CORNERS = 8;
    private static final int MOST_STREETS = 12;
    private static final int MOST_WALKERS = 4;
    private static final int MOST_LAWS = 4;
    private static final int MOST_WALKS = 4;
    private static final int MOST_STOPS = 16;
    private static final int MOST_DEPTH = 6;
    private static final int MOST_SEEN = 10;
    private static final int MOST_ACTS = 40;
    private static final int MOST_LOGGED = 60;
    private static final int MOST_DAYS = 999;
    private static final int MOST_COINS = 999;
    private static final int MOST_MARK = 999;
    private static final int MOST_FAITH = 9;
    private static final int MOST_LAMPS = 3;
    private static final int MOST_GIFT = 50;
    private static final int MOST_YEARS = 30;
    private static final int MOST_AHEAD = 60;
    private static final int MOST_AROUND = 99;

    private static final int WALL_PRICE = 3;
    private static final int LAMP_PRICE = 2;
    private static final int MOVE_PRICE = 1;
    private static final int FAITH_PRICE = 4;

    private static final int NO_SUCH_SORT = -2;
    private static final int AS_NOW = 99;
    private static final int NO_CHAPEL_WORTH = -20;
    private static final int CROWD = 4;
    private static final int ALL_PARTS = 1000000000;

    private final Tape tape = new Tape();
    private final Plan town = new Plan();
    private final Plan draft = new Plan();
    private final LawReader lawReader = new LawReader(tape);
    private final Laws laws = new Laws();
    private final Walks walks = new Walks();
    private final Ways ways = new Ways();
    private final Custom custom = new Custom(town, ways, laws);
    private final Sightings sightings = new Sightings();
    private final Scene now = new Scene();
    private final Scene trial = new Scene();
    private final Acts acts = new Acts();
    private final LogBook book = new LogBook();
    private final Scene imageScene = new Scene();
    private final LogBook imageBook = new LogBook();
    private boolean imaged;
    private int councilShare = 1;

    public WallChapels() {
    }

    // ---- texts ----

    public int feed(int a, int b, int c, int d, int e) {
        int fresh = Tape.bytesOf(a) + Tape.bytesOf(b) + Tape.bytesOf(c) + Tape.bytesOf(d) + Tape.bytesOf(e);
        if (tape.length + fresh > MOST_BYTES) {
            return NONE;
        }
        tape.append(a);
        tape.append(b);
        tape.append(c);
        tape.append(d);
        tape.append(e);
        return tape.length;
    }

    public boolean end(int n) {
        if (n < 0 || n > tape.length) {
            return false;
        }
        tape.length = n;
        return true;
    }

    public int fault(int sort) {
        switch (sort) {
            case TOWN_TEXT:
                return draft.readFrom(tape);
            case LAW_TEXT:
                return lawReader.readLaw();
            case WALK_TEXT:
                return walks.readFrom(tape);
            default:
                return NO_SUCH_SORT;
        }
    }

    public int text(int sort) {
        if (fault(sort) != NONE) {
            return NONE;
        }
        int answer = NONE;
        if (sort == TOWN_TEXT) {
            answer = settleTown();
        } else if (sort == LAW_TEXT) {
            answer = laws.addFrom(lawReader);
        } else if (sort == WALK_TEXT) {
            answer = walks.addDraft();
        }
        if (answer != NONE) {
            tape.length = 0;
        }
        return answer;
    }

    private int settleTown() {
        town.become(draft);
        now.begin(town);
        sightings.number = 0;
        acts.forgetAll();
        imaged = false;
        return town.streets;
    }

    // ---- what there is ----

    public int corner(int corner, int what) {
        if (!isCorner(corner)) {
            return NONE;
        }
        switch (what) {
            case 0:
                return now.marks[corner];
            case 1:
                return now.lamps[corner];
            case 2:
                return Integer.bitCount(openNow() & town.touching[corner]);
            default:
                return NONE;
        }
    }

    public int street(int street, int what) {
        if (!isStreet(street)) {
            return NONE;
        }
        switch (what) {
            case 0:
                return town.endA(street);
            case 1:
                return town.endB(street);
            case 2:
                return town.yardsOf(street);
            case 3:
                return now.walls >> street & 1;
            default:
                return NONE;
        }
    }

    public int walker(int walker, int what) throws NoSuchElementException {
        if (!isWalker(walker) || what < 0 || what > 1) {
            throw new NoSuchElementException("no such walker, or nothing of him by that number");
        }
        return what == 0 ? now.homes[walker] : now.faith[walker];
    }

    public boolean law(int law) {
        if (law != NONE && (law < 0 || law >= laws.number)) {
            return false;
        }
        laws.holding = law;
        return true;
    }

    public boolean council(int v) {
        if (v < 0 || v > 9 || v == councilShare) {
            return false;
        }
        councilShare = v;
        return true;
    }

    public int count(int what) {
        switch (what) {
            case 0:
                return town.corners;
            case 1:
                return town.streets;
            case 2:
                return town.walkers;
            case 3:
                return laws.number;
            case 4:
                return walks.number;
            case 5:
                return tape.length;
            case 6:
                return laws.holding;
            case 7:
                return now.day;
            case 8:
                return now.coins;
            case 9:
                return councilShare;
            case 10:
                return sightings.number;
            case 11:
                return logLength();
            case 12:
                return acts.held;
            default:
                return HIDDEN;
        }
    }

    private boolean hasTown() {
        return town.corners > 0;
    }

    private boolean isCorner(int corner) {
        return corner >= 0 && corner < town.corners;
    }

    private boolean isStreet(int street) {
        return street >= 0 && street < town.streets;
    }

    private boolean isWalker(int walker) {
        return walker >= 0 && walker < town.walkers;
    }

    private boolean areTwoWalkers(int one, int other) {
        return isWalker(one) && isWalker(other) && one != other;
    }

    private int openNow() {
        return town.openBehind(now.walls);
    }

    // ---- acts ----

    public int day() {
        if (!hasTown() || now.day >= MOST_DAYS) {
            return NONE;
        }
        acts.keep(now);
        liveDay();
        return custom.went;
    }

    private void liveDay() {
        custom.lookAt(now);
        custom.passDay(now);
        book.write(now.day - 1, custom.visited, custom.lapsed, now.coins);
    }

    public int wall(int street) {
        if (!isStreet(street) || now.coins < WALL_PRICE) {
            return NONE;
        }
        acts.keep(now);
        now.coins -= WALL_PRICE;
        now.walls ^= 1 << street;
        return now.walls >> street & 1;
    }

    public int lamp(int corner) {
        if (!isCorner(corner) || now.coins < LAMP_PRICE || now.lamps[corner] >= MOST_LAMPS) {
            return NONE;
        }
        acts.keep(now);
        now.coins -= LAMP_PRICE;
        now.lamps[corner]++;
        return now.lamps[corner];
    }

    public int moves(int walker, int corner) {
        if (!isWalker(walker) || !isCorner(corner) || now.coins < MOVE_PRICE || now.homes[walker] == corner) {
            return NONE;
        }
        acts.keep(now);
        now.coins -= MOVE_PRICE;
        int left = now.homes[walker];
        now.homes[walker] = corner;
        return left;
    }

    public int preach(int walker) {
        if (!isWalker(walker) || now.coins < FAITH_PRICE || now.faith[walker] >= MOST_FAITH) {
            return NONE;
        }
        acts.keep(now);
        now.coins -= FAITH_PRICE;
        now.faith[walker]++;
        return now.faith[walker];
    }

    public int give(int n) {
        if (!hasTown() || n < 1 || n > MOST_GIFT || now.coins + n > MOST_COINS) {
            return NONE;
        }
        acts.keep(now);
        now.coins += n;
        return now.coins;
    }

    public int years(int n, long seed) {
        if (!hasTown() || n < 1 || n > MOST_YEARS || now.day + n > MOST_DAYS) {
            return NONE;
        }
        long x = seed;
        for (int i = 0; i < n; i++) {
            acts.keep(now);
            x = shuffled(x);
            boolean byCouncil = drawn(x, 10) < councilShare;
            x = shuffled(x);
            if (byCouncil) {
                now.walls ^= 1 << drawn(x, town.streets);
            } else {
                int walker = drawn(x, town.walkers);
                x = shuffled(x);
                now.homes[walker] = drawn(x, town.corners);
            }
            liveDay();
        }
        return now.day;
    }

    private static long shuffled(long x) {
        return x * 6364136223846793005L + 1442695040888963407L;
    }

    private static int drawn(long x, int j) {
        return j < 1 ? 0 : (int) ((x >>> 33) % j);
    }

    public int undo() {
        if (!acts.takeBack(now)) {
            return NONE;
        }
        return acts.held;
    }

    public int log(int i, int what) {
        if (i < 0 || i >= logLength() || what < 0 || what > 2) {
            return NONE;
        }
        return book.entry(now.day - 1 - i, what);
    }

    // Each DAY writes one entry and an undone DAY takes its entry along, so the DAY tells the length.
    private int logLength() {
        return Math.min(MOST_LOGGED, now.day);
    }

    public int image() {
        if (!hasTown()) {
            return NONE;
        }
        imageScene.become(now);
        imageBook.become(book);
        imaged = true;
        return now.day;
    }

    public int back() {
        if (!imaged) {
            return NONE;
        }
        now.become(imageScene);
        book.become(imageBook);
        acts.forgetAll();
        return now.day;
    }

    // ---- walks and ways ----

    public int walk(int walk, int i) {
        if (walk < 0 || walk >= walks.number) {
            return NONE;
        }
        if (i == NONE) {
            return walks.lengths[walk];
        }
        return i < 0 || i >= walks.lengths[walk] ? NONE : walks.stops[walk][i];
    }

    public int check(int walk, int what) {
        if (!hasTown() || walk < 0 || walk >= walks.number || what < 0 || what > 2) {
            return HIDDEN;
        }
        custom.lookAt(now);
        int length = walks.lengths[walk];
        int behind = 0;
        int yards = 0;
        int reached = 0;
        for (int i = 0; i < length; i++) {
            int next = walks.stops[walk][i];
            int step = i == 0 ? 0 : ways.stepYards(walks.stops[walk][i - 1], next);
            if (!isCorner(next) || step == NONE) {
                break;
            }
            yards += step;
            reached |= 1 << next;
            behind++;
        }
        if (what == 0) {
            return behind == length ? NONE : behind;
        }
        return what == 1 ? yards : reached & custom.chapels;
    }

    public int far(int one, int other) {
        if (!isCorner(one) || !isCorner(other)) {
            return NONE;
        }
        ways.measure(town, openNow());
        return ways.yardsBetween(one, other);
    }

    public int way(int one, int other) {
        if (!isCorner(one) || !isCorner(other)) {
            return NONE;
        }
        ways.measure(town, openNow());
        return ways.leastRow(one, other);
    }

    public int feast(int corner, int what) {
        if (!isCorner(corner) || what < 0 || what > 1) {
            return NONE;
        }
        custom.lookAt(now);
        int chapels = custom.chapels;
        if (chapels == 0) {
            return what == 0 ? 0 : NONE;
        }
        if ((chapels & ~town.reachedFrom(corner, openNow())) != 0) {
            return NONE;
        }
        ways.planFeast(chapels);
        return what == 0 ? ways.feastYards(corner, chapels) : ways.feastRow(corner, chapels);
    }

    public int around(int corner, int v) {
        if (!isCorner(corner) || v < 0 || v > MOST_AROUND) {
            return NONE;
        }
        ways.measure(town, openNow());
        int bits = 0;
        for (int c = 0; c < town.corners; c++) {
            int yards = ways.yardsBetween(corner, c);
            if (yards != NONE && yards <= v) {
                bits |= 1 << c;
            }
        }
        return bits;
    }

    // ---- days ahead ----

    public int soon(int walker) {
        if (!isWalker(walker)) {
            return NONE;
        }
        trial.become(now);
        custom.lookAt(trial);
        for (int days = 1; days <= MOST_AHEAD; days++) {
            custom.passDay(trial);
            if ((custom.lapsed >> walker & 1) != 0) {
                return days;
            }
        }
        return NONE;
    }

    public int worn(int corner, int v) {
        if (!isCorner(corner) || v < 1 || v > MOST_MARK) {
            return NONE;
        }
        trial.become(now);
        custom.lookAt(trial);
        for (int days = 0; days <= MOST_AHEAD; days++) {
            if (trial.marks[corner] >= v) {
                return days;
            }
            custom.passDay(trial);
        }
        return NONE;
    }

    // ---- what was seen ----

    public int seen(int corner, boolean chapel) {
        if (!isCorner(corner)) {
            return NONE;
        }
        return sightings.add(corner, chapel);
    }

    public int knocked(int i) {
        if (!hasTown()) {
            return NONE;
        }
        int fitting = sightings.gather(town, now.walls);
        if (i == NONE) {
            return fitting;
        }
        return i < 0 || i >= fitting ? NONE : sightings.fitting[i];
    }

    public int ask() {
        if (!hasTown() || sightings.gather(town, now.walls) == 0) {
            return NONE;
        }
        int best = NONE;
        int least = 0;
        for (int c = 0; c < town.corners; c++) {
            int apart = sightings.apartBy(c);
            if (best == NONE || apart < least) {
                best = c;
                least = apart;
            }
        }
        return best;
    }

    // ---- walls that would be ----

    public int walls(int corners) {
        if (corners < 1 || corners >= 1 << town.corners) {
            return NONE;
        }
        int open = openNow();
        int best = NONE;
        int fewest = MOST_STREETS + 1;
        // Rising masks, so that of several as few the least comes first.
        for (int built = 0; built < 1 << town.streets; built++) {
            if ((built & ~open) == 0 && Integer.bitCount(built) < fewest
                    && (corners & ~town.chapelsAmong(open & ~built)) == 0) {
                best = built;
                fewest = Integer.bitCount(built);
            }
        }
        return best;
    }

    public int parted(int one, int other) {
        if (!isCorner(one) || !isCorner(other) || one == other) {
            return NONE;
        }
        int open = openNow();
        int best = NONE;
        int fewest = MOST_STREETS + 1;
        for (int built = 0; built < 1 << town.streets; built++) {
            if ((built & ~open) == 0 && Integer.bitCount(built) < fewest
                    && (town.reachedFrom(one, open & ~built) >> other & 1) == 0) {
                best = built;
                fewest = Integer.bitCount(built);
            }
        }
        return best;
    }

    // ---- what draws ----

    public int draws(int walker, int corner) {
        if (!isWalker(walker) || !isCorner(corner)) {
            return HIDDEN;
        }
        custom.lookAt(now);
        return custom.pullOn(now, walker, corner);
    }

    public int goes(int walker) {
        if (!isWalker(walker)) {
            return NONE;
        }
        custom.lookAt(now);
        return custom.goalOf(now, walker);
    }

    public int goers(int corner) {
        if (!isCorner(corner)) {
            return NONE;
        }
        custom.lookAt(now);
        int bits = 0;
        for (int w = 0; w < town.walkers; w++) {
            if (custom.goalOf(now, w) == corner) {
                bits |= 1 << w;
            }
        }
        return bits;
    }

    public int game(int one, int other, int x, int y, int what) {
        if (!areTwoWalkers(one, other) || x < 0 || x >= MOST_CORNERS || y < 0 || y >= MOST_CORNERS
                || what < 0 || what > 1) {
            return HIDDEN;
        }
        custom.lookAt(now);
        return what == 0 ? custom.hasAt(now, one, x, y) : custom.hasAt(now, other, y, x);
    }

    public int rests(int one, int other, int i) {
        if (!areTwoWalkers(one, other) || i < NONE) {
            return NONE;
        }
        custom.lookAt(now);
        int found = 0;
        for (int x = 0; x < town.corners; x++) {
            for (int y = 0; y < town.corners; y++) {
                if (custom.stays(now, one, x, y) && custom.stays(now, other, y, x)) {
                    if (found == i) {
                        return 10 * x + y;
                    }
                    found++;
                }
            }
        }
        return i == NONE ? found : NONE;
    }

    public int odds(int walker, int chance) {
        if (!isWalker(walker) || chance < 0 || chance > 100) {
            return NONE;
        }
        custom.lookAt(now);
        long left = ALL_PARTS;
        // Every chapel is shut by the same chance, so the order of what draws him changes nothing.
        for (int c = 0; c < town.corners; c++) {
            if (custom.canCome(now, walker, c)) {
                left = left * chance / 100;
            }
        }
        return (int) (ALL_PARTS - left);
    }

    public int shares(int corner, int c) {
        if (!isCorner(corner) || c < 0 || c > 999) {
            return NONE;
        }
        int sum = 0;
        for (int k = 0; k < town.corners; k++) {
            sum += now.marks[k];
        }
        return sum < 1 ? 0 : c * now.marks[corner] / sum;
    }

    // ---- of the whole town ----

    public int all(int what) {
        if (!hasTown()) {
            return NONE;
        }
        int open = openNow();
        switch (what) {
            case 0:
                return town.chapelsAmong(open);
            case 1:
                return town.bridgesAmong(open);
            case 2:
                return town.partsBy(open);
            case 3:
                return Integer.bitCount(open) - town.corners + town.partsBy(open);
            case 4:
                return deepest();
            case 5:
                return byStreets(open, -1);
            case 6:
                return byStreets(open, 1);
            case 7:
                return faithful();
            case 8:
                return byFarthest(open, 1);
            case 9:
                return byFarthest(open, -1);
            case 10:
                return town.lengthOf(open);
            case 11:
                return town.chapelsAmong(open) & ~lit();
            default:
                return NONE;
        }
    }

    private int deepest() {
        int best = 0;
        for (int c = 1; c < town.corners; c++) {
            if (now.marks[c] > now.marks[best]) {
                best = c;
            }
        }
        return best;
    }

    private int faithful() {
        int best = 0;
        for (int w = 1; w < town.walkers; w++) {
            if (now.faith[w] > now.faith[best]) {
                best = w;
            }
        }
        return best;
    }

    /** The corner with the most open streets for a sign of 1, the fewest for -1. */
    private int byStreets(int open, int sign) {
        int best = 0;
        int most = 0;
        for (int c = 0; c < town.corners; c++) {
            int worth = sign * Integer.bitCount(open & town.touching[c]);
            if (c == 0 || worth > most) {
                best = c;
                most = worth;
            }
        }
        return best;
    }

    /** The corner whose farthest one is most far for a sign of 1, least far for -1. */
    private int byFarthest(int open, int sign) {
        ways.measure(town, open);
        int best = 0;
        int most = 0;
        for (int c = 0; c < town.corners; c++) {
            int worth = sign * ways.farthestFrom(c);
            if (c == 0 || worth > most) {
                best = c;
                most = worth;
            }
        }
        return best;
    }

    private int lit() {
        int bits = 0;
        for (int c = 0; c < town.corners; c++) {
            if (now.lamps[c] > 0) {
                bits |= 1 << c;
            }
        }
        return bits;
    }

    /** The bytes fed so far, with a reading head for the readers of the three sorts of text. */
    private static final class Tape {
        private final int[] bytes = new int[MOST_BYTES];
        private int length;
        private int head;
        private int wrong;

        private static int bytesOf(int word) {
            int number = 0;
            for (int shift = 24; shift >= 0; shift -= 8) {
                if ((word >>> shift & 255) != 0) {
                    number++;
                }
            }
            return number;
        }

        private void append(int word) {
            for (int shift = 24; shift >= 0; shift -= 8) {
                int value = word >>> shift & 255;
                if (value != 0 && length < MOST_BYTES) {
                    bytes[length] = value;
                    length++;
                }
            }
        }

        private void rewind() {
            head = 0;
            wrong = NONE;
        }

        private static boolean isDigit(int sign) {
            return sign >= '0' && sign <= '9';
        }

        private int byteAtHead() {
            return head < length && head < MOST_BYTES ? bytes[head] : NONE;
        }

        /** The sign ahead, NONE at the end; the head comes to stand at it. */
        private int ahead() {
            while (head < length && byteAtHead() == ' ') {
                head++;
            }
            return byteAtHead();
        }

        private void step() {
            head++;
        }

        private boolean refuseHere() {
            wrong = head;
            return false;
        }

        private boolean take(int sign) {
            if (ahead() != sign) {
                return refuseHere();
            }
            step();
            return true;
        }

        /** A number of so many digits at most, or NONE behind a fault. */
        private int takeNumber(int digits, int least, int most) {
            ahead();
            int value = 0;
            int read = 0;
            while (read < digits && isDigit(byteAtHead())) {
                value = value * 10 + byteAtHead() - '0';
                read++;
                head++;
            }
            // A digit too many is named ahead of what the digits before it amount to.
            if (read == 0 || isDigit(byteAtHead())) {
                wrong = head;
                return NONE;
            }
            if (value < least || value > most) {
                wrong = head - 1;
                return NONE;
            }
            return value;
        }
    }

    /** A town as its text tells it; without corners there is no town. */
    private static final class Plan {
        private static final char[] RULE_LETTERS = {'n', 'k'};
        private static final int[] RULE_LEAST = {2, 0};
        private static final int[] RULE_MOST = {8, 99};
        private static final int[] RULE_WITHOUT = {4, 20};
        private static final char[] STREET_LETTERS = {'a', 'b', 'y', 'w'};
        private static final int[] STREET_LEAST = {0, 0, 1, 0};
        private static final int[] STREET_MOST = {7, 7, 40, 1};
        private static final int[] STREET_WITHOUT = {0, 1, 5, 0};
        private static final char[] WALKER_LETTERS = {'h', 'f'};
        private static final int[] WALKER_LEAST = {0, 0};
        private static final int[] WALKER_MOST = {7, 9};
        private static final int[] WALKER_WITHOUT = {0, 4};

        private int corners;
        private int streets;
        private int walkers;
        private boolean ruled;
        private final int[] rules = new int[2];
        private final int[][] streetRows = new int[MOST_STREETS][4];
        private final int[][] walkerRows = new int[MOST_WALKERS][2];
        private final int[] touching = new int[MOST_CORNERS];

        private void become(Plan other) {
            corners = other.corners;
            streets = other.streets;
            walkers = other.walkers;
            System.arraycopy(other.rules, 0, rules, 0, 2);
            for (int s = 0; s < MOST_STREETS; s++) {
                System.arraycopy(other.streetRows[s], 0, streetRows[s], 0, 4);
            }
            for (int w = 0; w < MOST_WALKERS; w++) {
                System.arraycopy(other.walkerRows[w], 0, walkerRows[w], 0, 2);
            }
            System.arraycopy(other.touching, 0, touching, 0, MOST_CORNERS);
        }

        /** The tape's fault as a town, NONE if there is none. */
        private int readFrom(Tape tape) {
            begin();
            tape.rewind();
            // Every clause takes a byte at least.
            for (int clause = 0; clause <= MOST_BYTES; clause++) {
                if (!readClause(tape)) {
                    return tape.wrong;
                }
                if (tape.ahead() == NONE) {
                    break;
                }
                if (!tape.take(';')) {
                    return tape.wrong;
                }
            }
            corners = rules[0];
            if (!isSound()) {
                return tape.length;
            }
            noteTouching();
            return NONE;
        }

        private void begin() {
            corners = 0;
            streets = 0;
            walkers = 0;
            ruled = false;
            System.arraycopy(RULE_WITHOUT, 0, rules, 0, 2);
        }

        private boolean readClause(Tape tape) {
            int sign = tape.ahead();
            if (sign == 's' && !ruled) {
                ruled = true;
                tape.step();
                return readItems(tape, RULE_LETTERS, RULE_LEAST, RULE_MOST, rules);
            }
            if (sign == 'e' && streets < MOST_STREETS) {
                int[] row = streetRows[streets];
                streets++;
                System.arraycopy(STREET_WITHOUT, 0, row, 0, 4);
                tape.step();
                return readItems(tape, STREET_LETTERS, STREET_LEAST, STREET_MOST, row);
            }
            if (sign == 'p' && walkers < MOST_WALKERS) {
                int[] row = walkerRows[walkers];
                walkers++;
                System.arraycopy(WALKER_WITHOUT, 0, row, 0, 2);
                tape.step();
                return readItems(tape, WALKER_LETTERS, WALKER_LEAST, WALKER_MOST, row);
            }
            return tape.refuseHere();
        }

        private static boolean readItems(Tape tape, char[] letters, int[] least, int[] most, int[] row) {
            int told = 0;
            for (int items = 0; items <= letters.length; items++) {
                int sign = tape.ahead();
                if (sign == NONE || sign == ';') {
                    return true;
                }
                int item = placeOf(letters, sign);
                if (item == NONE || (told >> item & 1) != 0 || item >= row.length) {
                    return tape.refuseHere();
                }
                told |= 1 << item;
                tape.step();
                int value = tape.takeNumber(2, least[item], most[item]);
                if (value == NONE) {
                    return false;
                }
                row[item] = value;
            }
            return tape.refuseHere();
        }

        private static int placeOf(char[] letters, int sign) {
            for (int i = 0; i < letters.length; i++) {
                if (letters[i] == sign) {
                    return i;
                }
            }
            return NONE;
        }

        private boolean isSound() {
            if (streets == 0 || walkers == 0) {
                return false;
            }
            for (int s = 0; s < streets; s++) {
                if (endA(s) >= corners || endB(s) >= corners || endA(s) == endB(s)) {
                    return false;
                }
            }
            for (int w = 0; w < walkers; w++) {
                if (walkerRows[w][0] >= corners) {
                    return false;
                }
            }
            return true;
        }

        private void noteTouching() {
            for (int c = 0; c < MOST_CORNERS; c++) {
                touching[c] = 0;
            }
            for (int s = 0; s < streets; s++) {
                touching[endA(s)] |= 1 << s;
                touching[endB(s)] |= 1 << s;
            }
        }

        private int endA(int street) {
            return streetRows[street][0];
        }

        private int endB(int street) {
            return streetRows[street][1];
        }

        private int yardsOf(int street) {
            return streetRows[street][2];
        }

        private int wallsTold() {
            int bits = 0;
            for (int s = 0; s < streets; s++) {
                bits |= streetRows[s][3] << s;
            }
            return bits;
        }

        private int openBehind(int walls) {
            return ~walls & (1 << streets) - 1;
        }

        private int chapelsAmong(int open) {
            int bits = 0;
            for (int c = 0; c < corners; c++) {
                if (Integer.bitCount(open & touching[c]) == 1) {
                    bits |= 1 << c;
                }
            }
            return bits;
        }

        private int reachedFrom(int corner, int open) {
            int reached = 1 << corner;
            for (int round = 1; round < corners; round++) {
                int before = reached;
                for (int s = 0; s < streets; s++) {
                    int ends = 1 << endA(s) | 1 << endB(s);
                    if ((open >> s & 1) != 0 && (reached & ends) != 0) {
                        reached |= ends;
                    }
                }
                if (reached == before) {
                    return reached;
                }
            }
            return reached;
        }

        private int bridgesAmong(int open) {
            int bits = 0;
            for (int s = 0; s < streets; s++) {
                int bit = 1 << s;
                if ((open & bit) != 0 && (reachedFrom(endA(s), open & ~bit) >> endB(s) & 1) == 0) {
                    bits |= bit;
                }
            }
            return bits;
        }

        private int partsBy(int open) {
            int parts = 0;
            int met = 0;
            for (int c = 0; c < corners; c++) {
                if ((met >> c & 1) == 0) {
                    parts++;
                    met |= reachedFrom(c, open);
                }
            }
            return parts;
        }

        private int lengthOf(int open) {
            int sum = 0;
            for (int s = 0; s < streets; s++) {
                if ((open >> s & 1) != 0) {
                    sum += yardsOf(s);
                }
            }
            return sum;
        }
    }

    /** All that an act may change, but for the log. */
    private static final class Scene {
        private int walls;
        private int coins;
        private int day;
        private final int[] marks = new int[MOST_CORNERS];
        private final int[] lamps = new int[MOST_CORNERS];
        private final int[] homes = new int[MOST_WALKERS];
        private final int[] faith = new int[MOST_WALKERS];

        private void begin(Plan plan) {
            walls = plan.wallsTold();
            coins = plan.rules[1];
            day = 0;
            for (int c = 0; c < MOST_CORNERS; c++) {
                marks[c] = 0;
                lamps[c] = 0;
            }
            for (int w = 0; w < MOST_WALKERS; w++) {
                homes[w] = w < plan.walkers ? plan.walkerRows[w][0] : 0;
                faith[w] = w < plan.walkers ? plan.walkerRows[w][1] : 0;
            }
        }

        private void become(Scene other) {
            walls = other.walls;
            coins = other.coins;
            day = other.day;
            System.arraycopy(other.marks, 0, marks, 0, MOST_CORNERS);
            System.arraycopy(other.lamps, 0, lamps, 0, MOST_CORNERS);
            System.arraycopy(other.homes, 0, homes, 0, MOST_WALKERS);
            System.arraycopy(other.faith, 0, faith, 0, MOST_WALKERS);
        }
    }

    /** The scenes ahead of the latest acts, in a ring. */
    private static final class Acts {
        private final Scene[] kept = new Scene[MOST_ACTS];
        private int next;
        private int held;

        private Acts() {
            for (int i = 0; i < MOST_ACTS; i++) {
                kept[i] = new Scene();
            }
        }

        private void keep(Scene scene) {
            Scene slot = kept[next];
            if (slot != null) {
                slot.become(scene);
                next = next + 1 < MOST_ACTS ? next + 1 : 0;
                held = Math.min(held + 1, MOST_ACTS);
            }
        }

        private boolean takeBack(Scene scene) {
            if (held == 0) {
                return false;
            }
            int latest = next > 0 ? next - 1 : MOST_ACTS - 1;
            Scene slot = kept[latest];
            if (slot == null) {
                return false;
            }
            scene.become(slot);
            next = latest;
            held--;
            return true;
        }

        private void forgetAll() {
            held = 0;
        }
    }

    /**
     * What the days brought, in a ring by the day. It keeps as many days more than can be asked for
     * as acts can be undone: so an undone day brings back the entry that had dropped out for it.
     */
    private static final class LogBook {
        private static final int ROOM = MOST_LOGGED + MOST_ACTS;
        private final int[] visited = new int[ROOM];
        private final int[] lapsed = new int[ROOM];
        private final int[] coins = new int[ROOM];

        private void write(int day, int visitedThen, int lapsedThen, int coinsThen) {
            int place = Math.floorMod(day, ROOM);
            visited[place] = visitedThen;
            lapsed[place] = lapsedThen;
            coins[place] = coinsThen;
        }

        private int entry(int day, int what) {
            int place = Math.floorMod(day, ROOM);
            return what == 0 ? visited[place] : what == 1 ? lapsed[place] : coins[place];
        }

        private void become(LogBook other) {
            System.arraycopy(other.visited, 0, visited, 0, ROOM);
            System.arraycopy(other.lapsed, 0, lapsed, 0, ROOM);
            System.arraycopy(other.coins, 0, coins, 0, ROOM);
        }
    }

    /** Reads a law into a row of steps: numbers as they are, signs as their negatives, each behind what it joins. */
    private static final class LawReader {
        private final Tape tape;
        private final int[] steps = new int[MOST_BYTES];
        private int size;

        private LawReader(Tape tape) {
            this.tape = tape;
        }

        /** The tape's fault as a law, NONE if there is none. */
        private int readLaw() {
            size = 0;
            tape.rewind();
            for (int clause = 0; clause <= MOST_BYTES; clause++) {
                if (!readClause()) {
                    return tape.wrong;
                }
                if (tape.ahead() == NONE) {
                    return NONE;
                }
                if (!tape.take(';')) {
                    return tape.wrong;
                }
            }
            return tape.length;
        }

        private boolean readClause() {
            if (!tape.take('y') || !tape.take(':')) {
                return false;
            }
            int sign = tape.ahead();
            boolean begun = sign != '!' && sign != '(';
            if (begun && !readSum(0)) {
                return false;
            }
            // Only what follows a first sum tells whether it begins a condition.
            if (!begun || isRelation(tape.ahead())) {
                if (!readCondition(0, begun) || !tape.take('?')) {
                    return false;
                }
                emit(-'?');
                if (!readSum(0)) {
                    return false;
                }
            }
            emit(-';');
            return true;
        }

        /** With begun the first sum has been read already. */
        private boolean readCondition(int depth, boolean begun) {
            if (!readTruth(depth, begun)) {
                return false;
            }
            for (int signs = 0; signs < MOST_BYTES && tape.ahead() == '|'; signs++) {
                tape.step();
                if (!readTruth(depth, false)) {
                    return false;
                }
                emit(-'|');
            }
            return true;
        }

        private boolean readTruth(int depth, boolean begun) {
            if (!readUnit(depth, begun)) {
                return false;
            }
            for (int signs = 0; signs < MOST_BYTES && tape.ahead() == '&'; signs++) {
                tape.step();
                if (!readUnit(depth, false)) {
                    return false;
                }
                emit(-'&');
            }
            return true;
        }

        private boolean readUnit(int depth, boolean begun) {
            if (!begun) {
                int sign = tape.ahead();
                if (sign == '!' || sign == '(') {
                    return readNested(depth, sign);
                }
                if (!readSum(depth)) {
                    return false;
                }
            }
            int relation = tape.ahead();
            if (!isRelation(relation)) {
                return tape.refuseHere();
            }
            tape.step();
            if (!readSum(depth)) {
                return false;
            }
            emit(-relation);
            return true;
        }

        private boolean readNested(int depth, int sign) {
            if (depth >= MOST_DEPTH) {
                return tape.refuseHere();
            }
            tape.step();
            if (sign == '(') {
                return readCondition(depth + 1, false) && tape.take(')');
            }
            if (!readUnit(depth + 1, false)) {
                return false;
            }
            emit(-'!');
            return true;
        }

        private boolean readSum(int depth) {
            if (!readTerm(depth)) {
                return false;
            }
            for (int signs = 0; signs < MOST_BYTES; signs++) {
                int sign = tape.ahead();
                if (sign != '+' && sign != '-') {
                    return true;
                }
                tape.step();
                if (!readTerm(depth)) {
                    return false;
                }
                emit(-sign);
            }
            return true;
        }

        private boolean readTerm(int depth) {
            if (!readAtom(depth)) {
                return false;
            }
            for (int signs = 0; signs < MOST_BYTES; signs++) {
                int sign = tape.ahead();
                if (sign != '*' && sign != '/') {
                    return true;
                }
                tape.step();
                if (!readAtom(depth)) {
                    return false;
                }
                emit(-sign);
            }
            return true;
        }

        private boolean readAtom(int depth) {
            int sign = tape.ahead();
            if (Tape.isDigit(sign)) {
                int value = tape.takeNumber(4, 0, 9999);
                if (value == NONE) {
                    return false;
                }
                emit(value);
                return true;
            }
            if (isLetter(sign)) {
                tape.step();
                emit(-sign);
                return true;
            }
            if (sign != '[' || depth >= MOST_DEPTH) {
                return tape.refuseHere();
            }
            tape.step();
            return readSum(depth + 1) && tape.take(']');
        }

        private static boolean isLetter(int sign) {
            return sign == 'y' || sign == 'w' || sign == 'f' || sign == 'l' || sign == 'c' || sign == 'd';
        }

        private static boolean isRelation(int sign) {
            return sign == '=' || sign == '<' || sign == '>';
        }

        // Each step stems from a byte of its own, so the row never runs full.
        private void emit(int step) {
            if (size < MOST_BYTES) {
                steps[size] = step;
                size++;
            }
        }
    }

    /** The laws, and what a chapel is worth by the one that holds. */
    private static final class Laws {
        private static final int BOUND = 1000000;
        private static final int ROOM = 64;
        private final int[][] rows = new int[MOST_LAWS][MOST_BYTES];
        private final int[] sizes = new int[MOST_LAWS];
        private final int[] stack = new int[ROOM];
        private int height;
        private int number;
        private int holding = NONE;
        private int yards;
        private int mark;
        private int faith;
        private int lamps;
        private int chapels;
        private int day;

        /** The new law's number, NONE if there are four. */
        private int addFrom(LawReader reader) {
            if (number >= MOST_LAWS) {
                return NONE;
            }
            System.arraycopy(reader.steps, 0, rows[number], 0, reader.size);
            sizes[number] = reader.size;
            number++;
            return number - 1;
        }

        private void tellTown(int chapelCount, int dayNow) {
            chapels = chapelCount;
            day = dayNow;
        }

        private void tellChapel(int yardsFar, int markThere, int faithHis, int lampsThere) {
            yards = yardsFar;
            mark = markThere;
            faith = faithHis;
            lamps = lampsThere;
        }

        /** The worth by the law that holds, of what was told last; 0 if none holds. */
        private int worth() {
            if (holding < 0 || holding >= number) {
                return 0;
            }
            int[] row = rows[holding];
            boolean skipping = false;
            height = 0;
            for (int i = 0; i < sizes[holding]; i++) {
                int step = row[i];
                if (skipping) {
                    skipping = step != -';';
                } else if (step >= 0) {
                    push(step);
                } else if (step == -';') {
                    return pop();
                } else if (step == -'?') {
                    skipping = pop() == 0;
                } else if (LawReader.isLetter(-step)) {
                    push(letter(-step));
                } else if (step == -'!') {
                    push(1 - pop());
                } else {
                    long right = pop();
                    push(joined(pop(), -step, right));
                }
            }
            return 0;
        }

        private int letter(int sign) {
            switch (sign) {
                case 'y':
                    return yards;
                case 'w':
                    return mark;
                case 'f':
                    return faith;
                case 'l':
                    return lamps;
                case 'c':
                    return chapels;
                default:
                    return day;
            }
        }

        /** Two joined by a sign and held within the bound; what holds is 1, what does not 0. */
        private static int joined(long left, int sign, long right) {
            switch (sign) {
                case '+':
                    return bounded(left + right);
                case '-':
                    return bounded(left - right);
                case '*':
                    return bounded(left * right);
                case '/':
                    return right == 0 ? 0 : bounded(left / right);
                case '=':
                    return left == right ? 1 : 0;
                case '<':
                    return left < right ? 1 : 0;
                case '>':
                    return left > right ? 1 : 0;
                case '&':
                    return left != 0 && right != 0 ? 1 : 0;
                default:
                    return left != 0 || right != 0 ? 1 : 0;
            }
        }

        private static int bounded(long value) {
            return value > BOUND ? BOUND : value < -BOUND ? -BOUND : (int) value;
        }

        // Six levels of two open signs each stay far below the room.
        private void push(int value) {
            if (height < ROOM) {
                stack[height] = value;
                height++;
            }
        }

        private int pop() {
            if (height < 1) {
                return 0;
            }
            height--;
            return stack[height];
        }
    }

    /** The walks, and the draft of the one read last. */
    private static final class Walks {
        private final int[][] stops = new int[MOST_WALKS][MOST_STOPS];
        private final int[] lengths = new int[MOST_WALKS];
        private final int[] draftStops = new int[MOST_STOPS];
        private int draftLength;
        private int number;

        /** The tape's fault as a walk, NONE if there is none. */
        private int readFrom(Tape tape) {
            tape.rewind();
            draftLength = 0;
            for (int sign = tape.ahead(); sign >= '0' && sign <= '7' && draftLength < MOST_STOPS; sign = tape.ahead()) {
                draftStops[draftLength] = sign - '0';
                draftLength++;
                tape.step();
            }
            return draftLength > 0 && tape.ahead() == NONE ? NONE : tape.head;
        }

        /** The new walk's number, NONE if there are four. */
        private int addDraft() {
            if (number >= MOST_WALKS) {
                return NONE;
            }
            System.arraycopy(draftStops, 0, stops[number], 0, MOST_STOPS);
            lengths[number] = draftLength;
            number++;
            return number - 1;
        }
    }

    /** How far the corners are from one another by the streets last measured. */
    private static final class Ways {
        /** Yards count so many times a corner, so that among as many yards the fewest corners win. */
        private static final int YARD = 16;
        private static final int UNREACHED = 1000000;
        private static final int ALL_SETS = 1 << MOST_CORNERS;
        private final int[][] steps = new int[MOST_CORNERS][MOST_CORNERS];
        private final int[][] costs = new int[MOST_CORNERS][MOST_CORNERS];
        /** By the set of chapels left and the corner, in one row: a row a set would be too many objects. */
        private final int[] feasts = new int[ALL_SETS * MOST_CORNERS];
        private int corners;

        private void measure(Plan plan, int open) {
            corners = plan.corners;
            for (int a = 0; a < corners; a++) {
                for (int b = 0; b < corners; b++) {
                    steps[a][b] = NONE;
                    costs[a][b] = a == b ? 0 : UNREACHED;
                }
            }
            for (int s = 0; s < plan.streets; s++) {
                if ((open >> s & 1) != 0) {
                    noteStreet(plan.endA(s), plan.endB(s), plan.yardsOf(s));
                }
            }
            for (int over = 0; over < corners; over++) {
                for (int a = 0; a < corners; a++) {
                    for (int b = 0; b < corners; b++) {
                        costs[a][b] = Math.min(costs[a][b], costs[a][over] + costs[over][b]);
                    }
                }
            }
        }

        private void noteStreet(int a, int b, int yards) {
            if (steps[a][b] == NONE || yards < steps[a][b]) {
                steps[a][b] = yards;
                steps[b][a] = yards;
                costs[a][b] = yards * YARD + 1;
                costs[b][a] = yards * YARD + 1;
            }
        }

        private boolean isMeasured(int corner) {
            return corner >= 0 && corner < corners;
        }

        /** The yards of the shortest street between two, NONE if there is none or no such corner. */
        private int stepYards(int one, int other) {
            return isMeasured(one) && isMeasured(other) ? steps[one][other] : NONE;
        }

        private int yardsBetween(int one, int other) {
            return costs[one][other] >= UNREACHED ? NONE : costs[one][other] / YARD;
        }

        private int farthestFrom(int corner) {
            int most = 0;
            for (int c = 0; c < corners; c++) {
                most = Math.max(most, yardsBetween(corner, c));
            }
            return most;
        }

        private int leastRow(int one, int other) {
            if (costs[one][other] >= UNREACHED) {
                return NONE;
            }
            int row = one;
            int here = one;
            for (int length = 1; length < corners && here != other; length++) {
                here = nextTowards(here, other);
                row = row * 10 + here;
            }
            return row;
        }

        private int nextTowards(int here, int other) {
            for (int next = 0; next < corners; next++) {
                if (steps[here][next] != NONE
                        && steps[here][next] * YARD + 1 + costs[next][other] == costs[here][other]) {
                    return next;
                }
            }
            return other;
        }

        /** Notes, for each corner and each set of the chapels still to come to, the fewest yards. */
        private void planFeast(int chapels) {
            for (int left = 0; left < ALL_SETS; left++) {
                if ((left & ~chapels) == 0) {
                    for (int from = 0; from < corners; from++) {
                        feasts[left * MOST_CORNERS + from] = left == 0 ? 0 : fewestYards(from, left);
                    }
                }
            }
        }

        private int fewestYards(int from, int left) {
            int fewest = UNREACHED;
            for (int next = 0; next < corners; next++) {
                if ((left >> next & 1) != 0) {
                    fewest = Math.min(fewest, yardsByNext(from, left, next));
                }
            }
            return fewest;
        }

        private int yardsByNext(int from, int left, int next) {
            int yards = yardsBetween(from, next);
            return yards == NONE ? UNREACHED : Math.min(UNREACHED, yards + feastOf(next, left & ~(1 << next)));
        }

        private int feastOf(int from, int left) {
            return feasts[left * MOST_CORNERS + from];
        }

        private int feastYards(int corner, int chapels) {
            return feastOf(corner, chapels & ~(1 << corner));
        }

        private int feastRow(int corner, int chapels) {
            int row = (chapels >> corner & 1) != 0 ? corner : 0;
            int left = chapels & ~(1 << corner);
            int here = corner;
            for (int i = 0; i < corners && left != 0; i++) {
                int next = 0;
                while (next < corners - 1
                        && ((left >> next & 1) == 0 || yardsByNext(here, left, next) != feastOf(here, left))) {
                    next++;
                }
                row = row * 10 + next;
                left &= ~(1 << next);
                here = next;
            }
            return row;
        }
    }

    /** How the walkers choose and live; what it says is of the walls it looked at last. */
    private static final class Custom {
        private static final int MOST_PULL = 99;
        private final Plan plan;
        private final Ways ways;
        private final Laws laws;
        private int chapels;
        private int visited;
        private int lapsed;
        private int went;

        private Custom(Plan plan, Ways ways, Laws laws) {
            this.plan = plan;
            this.ways = ways;
            this.laws = laws;
        }

        private void lookAt(Scene scene) {
            int open = plan.openBehind(scene.walls);
            chapels = plan.chapelsAmong(open);
            ways.measure(plan, open);
        }

        private boolean canCome(Scene scene, int walker, int corner) {
            return (chapels >> corner & 1) != 0 && ways.yardsBetween(scene.homes[walker], corner) != NONE;
        }

        /** What a corner draws a walker, HIDDEN if it is no chapel that he could come to. */
        private int pullOn(Scene scene, int walker, int corner) {
            if (!canCome(scene, walker, corner)) {
                return HIDDEN;
            }
            int yards = ways.yardsBetween(scene.homes[walker], corner);
            int mark = scene.marks[corner];
            if (laws.holding == NONE) {
                return scene.faith[walker] + mark / 2 + 2 * scene.lamps[corner] - yards / 3;
            }
            laws.tellTown(Integer.bitCount(chapels), scene.day);
            laws.tellChapel(yards, mark, scene.faith[walker], scene.lamps[corner]);
            return Math.max(-MOST_PULL, Math.min(MOST_PULL, laws.worth()));
        }

        private int goalOf(Scene scene, int walker) {
            int goal = NONE;
            int most = HIDDEN;
            for (int c = 0; c < plan.corners; c++) {
                int pull = pullOn(scene, walker, c);
                if (pull > most) {
                    goal = c;
                    most = pull;
                }
            }
            return goal;
        }

        private void passDay(Scene scene) {
            visited = 0;
            lapsed = 0;
            went = 0;
            for (int w = 0; w < plan.walkers; w++) {
                int goal = goalOf(scene, w);
                if (goal == NONE) {
                    lapsed |= 1 << w;
                    scene.faith[w] = Math.max(0, scene.faith[w] - 1);
                } else {
                    visited |= 1 << goal;
                    went++;
                    scene.marks[goal] = Math.min(MOST_MARK, scene.marks[goal] + 1);
                }
            }
            scene.coins = Math.min(MOST_COINS, scene.coins + went);
            scene.day++;
        }

        /** What a walker has at his corner while another goes to theirs. */
        private int hasAt(Scene scene, int walker, int corner, int theirs) {
            int pull = corner < plan.corners ? pullOn(scene, walker, corner) : HIDDEN;
            return (pull == HIDDEN ? NO_CHAPEL_WORTH : pull) - (corner == theirs ? CROWD : 0);
        }

        private boolean stays(Scene scene, int walker, int corner, int theirs) {
            int has = hasAt(scene, walker, corner, theirs);
            for (int c = 0; c < plan.corners; c++) {
                if (hasAt(scene, walker, c, theirs) > has) {
                    return false;
                }
            }
            return true;
        }
    }

    /** What was seen, and the knocks that it leaves possible. */
    private static final class Sightings {
        private final int[] corners = new int[MOST_SEEN];
        private final boolean[] chapels = new boolean[MOST_SEEN];
        private final int[] fitting = new int[MOST_STREETS + 1];
        private final int[] fittingChapels = new int[MOST_STREETS + 1];
        private int number;
        private int found;

        private int add(int corner, boolean chapel) {
            if (number >= MOST_SEEN) {
                return NONE;
            }
            corners[number] = corner;
            chapels[number] = chapel;
            number++;
            return number;
        }

        /** Gathers what fits, with the chapels by it: how many. */
        private int gather(Plan plan, int walls) {
            found = 0;
            int open = plan.openBehind(walls);
            for (int s = 0; s < plan.streets; s++) {
                if ((walls >> s & 1) != 0) {
                    gatherIfFits(s, plan.chapelsAmong(open | 1 << s));
                }
            }
            gatherIfFits(AS_NOW, plan.chapelsAmong(open));
            return found;
        }

        private void gatherIfFits(int name, int chapelBits) {
            for (int i = 0; i < number; i++) {
                if ((chapelBits >> corners[i] & 1) != 0 != chapels[i]) {
                    return;
                }
            }
            if (found <= MOST_STREETS) {
                fitting[found] = name;
                fittingChapels[found] = chapelBits;
                found++;
            }
        }

        /** How far apart, among what fits, those are in number by which a corner is a chapel and is not. */
        private int apartBy(int corner) {
            int with = 0;
            for (int i = 0; i < found; i++) {
                with += fittingChapels[i] >> corner & 1;
            }
            return Math.abs(with - (found - with));
        }
    }
}
