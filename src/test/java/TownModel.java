import java.util.ArrayDeque;
import java.util.ArrayList;
import java.util.Arrays;
import java.util.Collections;
import java.util.Deque;
import java.util.List;

/**
 * The town in its plainest form, by other means than the program's: every simple path is walked,
 * every order of a feast tried, every act copies all. Only for tests.
 */
final class TownModel {
    static final int NONE = -1;
    static final int HIDDEN = -1000000;

    /** All that an act or an image keeps. */
    static final class State {
        boolean[] wall;
        int[] mark;
        int[] lamp;
        int[] home;
        int[] faith;
        int coins;
        int day;
        List<int[]> log = new ArrayList<>();

        State copy() {
            State s = new State();
            s.wall = wall.clone();
            s.mark = mark.clone();
            s.lamp = lamp.clone();
            s.home = home.clone();
            s.faith = faith.clone();
            s.coins = coins;
            s.day = day;
            s.log = new ArrayList<>(log);
            return s;
        }
    }

    int corners;
    int[][] street = new int[0][];
    int walkers;
    State now = new State();
    State image;
    Deque<State> acts = new ArrayDeque<>();
    List<LawModel> laws = new ArrayList<>();
    List<int[]> walks = new ArrayList<>();
    int holding = NONE;
    int council = 1;
    List<int[]> seen = new ArrayList<>();

    void settle(int corners, int coins, int[][] street, int[][] walker) {
        this.corners = corners;
        this.street = street;
        this.walkers = walker.length;
        now = new State();
        now.wall = new boolean[street.length];
        for (int s = 0; s < street.length; s++) {
            now.wall[s] = street[s][3] == 1;
        }
        now.mark = new int[corners];
        now.lamp = new int[corners];
        now.home = new int[walkers];
        now.faith = new int[walkers];
        for (int w = 0; w < walkers; w++) {
            now.home[w] = walker[w][0];
            now.faith[w] = walker[w][1];
        }
        now.coins = coins;
        image = null;
        acts.clear();
        seen.clear();
    }

    boolean corner(int c) {
        return c >= 0 && c < corners;
    }

    boolean isWalker(int w) {
        return w >= 0 && w < walkers;
    }

    boolean two(int one, int other) {
        return isWalker(one) && isWalker(other) && one != other;
    }

    // ---- paths

    List<Integer> openAt(boolean[] wall, int c) {
        List<Integer> open = new ArrayList<>();
        for (int s = 0; s < street.length; s++) {
            if (!wall[s] && (street[s][0] == c || street[s][1] == c)) {
                open.add(s);
            }
        }
        return open;
    }

    int otherEnd(int s, int c) {
        return street[s][0] == c ? street[s][1] : street[s][0];
    }

    boolean chapel(boolean[] wall, int c) {
        return openAt(wall, c).size() == 1;
    }

    int chapels(boolean[] wall) {
        int bits = 0;
        for (int c = 0; c < corners; c++) {
            if (chapel(wall, c)) {
                bits += 1 << c;
            }
        }
        return bits;
    }

    /** The best simple path: yards, corners, row; null if there is none. */
    int[] bestPath(boolean[] wall, int from, int to) {
        List<int[]> paths = new ArrayList<>();
        gatherPaths(wall, from, to, 1 << from, 0, 1, from, paths);
        int[] best = null;
        for (int[] path : paths) {
            if (best == null || Arrays.compare(path, best) < 0) {
                best = path;
            }
        }
        return best;
    }

    private void gatherPaths(boolean[] wall, int at, int to, int met, int yards, int length, int row, List<int[]> paths) {
        if (at == to) {
            paths.add(new int[] {yards, length, row});
            return;
        }
        for (int s : openAt(wall, at)) {
            int next = otherEnd(s, at);
            if ((met >> next & 1) == 0) {
                gatherPaths(wall, next, to, met | 1 << next, yards + street[s][2], length + 1, row * 10 + next, paths);
            }
        }
    }

    int[][] farTable(boolean[] wall) {
        int[][] far = new int[corners][corners];
        for (int a = 0; a < corners; a++) {
            Arrays.fill(far[a], NONE);
            far[a][a] = 0;
            for (int round = 0; round < corners; round++) {
                for (int s = 0; s < street.length; s++) {
                    for (int side = 0; side < 2 && !wall[s]; side++) {
                        int p = street[s][side];
                        int q = street[s][1 - side];
                        if (far[a][p] >= 0 && (far[a][q] < 0 || far[a][q] > far[a][p] + street[s][2])) {
                            far[a][q] = far[a][p] + street[s][2];
                        }
                    }
                }
            }
        }
        return far;
    }

    int far(int one, int other) {
        return corner(one) && corner(other) ? farTable(now.wall)[one][other] : NONE;
    }

    int way(int one, int other) {
        if (!corner(one) || !corner(other)) {
            return NONE;
        }
        int[] best = bestPath(now.wall, one, other);
        return best == null ? NONE : best[2];
    }

    int feast(int from, int what) {
        if (!corner(from) || what < 0 || what > 1) {
            return NONE;
        }
        List<Integer> left = new ArrayList<>();
        for (int c = 0; c < corners; c++) {
            if (chapel(now.wall, c)) {
                left.add(c);
            }
        }
        if (left.isEmpty()) {
            return what == 0 ? 0 : NONE;
        }
        int[][] far = farTable(now.wall);
        for (int c : left) {
            if (far[from][c] < 0) {
                return NONE;
            }
        }
        List<int[]> found = new ArrayList<>();
        orders(from, left, 0, 0, far, found);
        int[] best = Collections.min(found, Arrays::compare);
        return best[what];
    }

    private void orders(int at, List<Integer> left, int yards, int row, int[][] far, List<int[]> found) {
        if (left.isEmpty()) {
            found.add(new int[] {yards, row});
            return;
        }
        for (int c : left) {
            List<Integer> rest = new ArrayList<>(left);
            rest.remove(Integer.valueOf(c));
            orders(c, rest, yards + far[at][c], row * 10 + c, far, found);
        }
    }

    int around(int from, int v) {
        if (!corner(from) || v < 0 || v > 99) {
            return NONE;
        }
        int bits = 0;
        for (int c = 0; c < corners; c++) {
            int yards = far(from, c);
            if (yards >= 0 && yards <= v) {
                bits += 1 << c;
            }
        }
        return bits;
    }

    int check(int walk, int what) {
        if (corners == 0 || walk < 0 || walk >= walks.size() || what < 0 || what > 2) {
            return HIDDEN;
        }
        int[] stops = walks.get(walk);
        int good = 0;
        int yards = 0;
        int bits = 0;
        while (good < stops.length && corner(stops[good])) {
            if (good > 0) {
                int shortest = NONE;
                for (int s : openAt(now.wall, stops[good - 1])) {
                    if (otherEnd(s, stops[good - 1]) == stops[good] && (shortest < 0 || street[s][2] < shortest)) {
                        shortest = street[s][2];
                    }
                }
                if (shortest < 0) {
                    break;
                }
                yards += shortest;
            }
            if (chapel(now.wall, stops[good])) {
                bits |= 1 << stops[good];
            }
            good++;
        }
        return what == 0 ? (good == stops.length ? NONE : good) : what == 1 ? yards : bits;
    }

    // ---- what draws

    int pull(State s, int w, int c) {
        if (!corner(c) || !chapel(s.wall, c)) {
            return HIDDEN;
        }
        int yards = farTable(s.wall)[s.home[w]][c];
        if (yards < 0) {
            return HIDDEN;
        }
        if (holding == NONE) {
            return s.faith[w] + s.mark[c] / 2 + 2 * s.lamp[c] - yards / 3;
        }
        int worth = laws.get(holding).worth(yards, s.mark[c], s.faith[w], s.lamp[c], Integer.bitCount(chapels(s.wall)), s.day);
        return worth > 99 ? 99 : worth < -99 ? -99 : worth;
    }

    int goal(State s, int w) {
        int best = NONE;
        for (int c = corners - 1; c >= 0; c--) {
            int pull = pull(s, w, c);
            if (pull != HIDDEN && (best < 0 || pull >= pull(s, w, best))) {
                best = c;
            }
        }
        return best;
    }

    /** One day of a state: how many went. */
    int pass(State s) {
        int visited = 0;
        int lapsed = 0;
        int went = 0;
        for (int w = 0; w < walkers; w++) {
            int c = goal(s, w);
            if (c >= 0) {
                visited |= 1 << c;
                went++;
                if (s.mark[c] < 999) {
                    s.mark[c]++;
                }
            } else {
                lapsed |= 1 << w;
                if (s.faith[w] > 0) {
                    s.faith[w]--;
                }
            }
        }
        s.coins = Math.min(999, s.coins + went);
        s.day++;
        s.log.add(new int[] {visited, lapsed, s.coins});
        return went;
    }

    int draws(int w, int c) {
        return isWalker(w) ? pull(now, w, c) : HIDDEN;
    }

    int goes(int w) {
        return isWalker(w) ? goal(now, w) : NONE;
    }

    int goers(int c) {
        if (!corner(c)) {
            return NONE;
        }
        int bits = 0;
        for (int w = 0; w < walkers; w++) {
            bits |= goal(now, w) == c ? 1 << w : 0;
        }
        return bits;
    }

    int has(int w, int mine, int theirs) {
        int pull = pull(now, w, mine);
        int value = pull == HIDDEN ? -20 : pull;
        return mine == theirs ? value - 4 : value;
    }

    int game(int one, int other, int x, int y, int what) {
        if (!two(one, other) || x < 0 || x > 7 || y < 0 || y > 7 || what < 0 || what > 1) {
            return HIDDEN;
        }
        return what == 0 ? has(one, x, y) : has(other, y, x);
    }

    int rests(int one, int other, int i) {
        if (!two(one, other)) {
            return NONE;
        }
        List<Integer> found = new ArrayList<>();
        for (int x = 0; x < corners; x++) {
            for (int y = 0; y < corners; y++) {
                int bestX = HIDDEN;
                int bestY = HIDDEN;
                for (int c = 0; c < corners; c++) {
                    bestX = Math.max(bestX, has(one, c, y));
                    bestY = Math.max(bestY, has(other, c, x));
                }
                if (has(one, x, y) == bestX && has(other, y, x) == bestY) {
                    found.add(10 * x + y);
                }
            }
        }
        return i == NONE ? found.size() : i >= 0 && i < found.size() ? found.get(i) : NONE;
    }

    int odds(int w, int chance) {
        if (!isWalker(w) || chance < 0 || chance > 100) {
            return NONE;
        }
        long left = 1000000000L;
        long found = 0;
        for (int c = 0; c < corners; c++) {
            if (pull(now, w, c) != HIDDEN) {
                long goOn = left * chance / 100;
                found += left - goOn;
                left = goOn;
            }
        }
        return (int) found;
    }

    int shares(int at, int c) {
        if (!corner(at) || c < 0 || c > 999) {
            return NONE;
        }
        int sum = Arrays.stream(now.mark).sum();
        return sum == 0 ? 0 : c * now.mark[at] / sum;
    }

    // ---- days ahead

    int soon(int w) {
        if (!isWalker(w)) {
            return NONE;
        }
        State s = now.copy();
        for (int days = 1; days <= 60; days++) {
            pass(s);
            if ((s.log.get(s.log.size() - 1)[1] >> w & 1) == 1) {
                return days;
            }
        }
        return NONE;
    }

    int worn(int c, int v) {
        if (!corner(c) || v < 1 || v > 999) {
            return NONE;
        }
        State s = now.copy();
        int days = 0;
        while (s.mark[c] < v) {
            if (days == 60) {
                return NONE;
            }
            pass(s);
            days++;
        }
        return days;
    }

    // ---- walls

    int seen(int c, boolean chapel) {
        if (!corner(c) || seen.size() == 10) {
            return NONE;
        }
        seen.add(new int[] {c, chapel ? 1 : 0});
        return seen.size();
    }

    private List<Integer> fitting(List<Integer> chapelBits) {
        List<Integer> names = new ArrayList<>();
        for (int s = 0; s <= street.length; s++) {
            boolean[] wall = now.wall.clone();
            if (s < street.length) {
                if (!wall[s]) {
                    continue;
                }
                wall[s] = false;
            }
            boolean fits = true;
            for (int[] one : seen) {
                fits &= chapel(wall, one[0]) == (one[1] == 1);
            }
            if (fits) {
                names.add(s < street.length ? s : 99);
                chapelBits.add(chapels(wall));
            }
        }
        return names;
    }

    int knocked(int i) {
        if (corners == 0) {
            return NONE;
        }
        List<Integer> names = fitting(new ArrayList<>());
        return i == NONE ? names.size() : i >= 0 && i < names.size() ? names.get(i) : NONE;
    }

    int ask() {
        List<Integer> bits = new ArrayList<>();
        if (corners == 0 || fitting(bits).isEmpty()) {
            return NONE;
        }
        int best = NONE;
        int least = 1000;
        for (int c = 0; c < corners; c++) {
            int balance = 0;
            for (int b : bits) {
                balance += (b >> c & 1) == 1 ? 1 : -1;
            }
            if (Math.abs(balance) < least) {
                least = Math.abs(balance);
                best = c;
            }
        }
        return best;
    }

    private int leastWalls(int set, int one, int other) {
        int best = NONE;
        for (int built = 0; built < 1 << street.length; built++) {
            boolean[] wall = now.wall.clone();
            boolean open = true;
            for (int s = 0; s < street.length; s++) {
                if ((built >> s & 1) == 1) {
                    open &= !wall[s];
                    wall[s] = true;
                }
            }
            if (!open || best != NONE && Integer.bitCount(built) >= Integer.bitCount(best)) {
                continue;
            }
            if (set != 0 ? (chapels(wall) & set) == set : farTable(wall)[one][other] < 0) {
                best = built;
            }
        }
        return best;
    }

    int walls(int set) {
        return set < 1 || set >= 1 << corners ? NONE : leastWalls(set, 0, 0);
    }

    int parted(int one, int other) {
        return !corner(one) || !corner(other) || one == other ? NONE : leastWalls(0, one, other);
    }

    // ---- the whole town

    int parts(boolean[] wall) {
        int[][] far = farTable(wall);
        int parts = 0;
        for (int c = 0; c < corners; c++) {
            boolean first = true;
            for (int k = 0; k < c; k++) {
                first &= far[k][c] < 0;
            }
            parts += first ? 1 : 0;
        }
        return parts;
    }

    int all(int what) {
        if (corners == 0 || what < 0 || what > 11) {
            return NONE;
        }
        int chapels = chapels(now.wall);
        int bridges = 0;
        int open = 0;
        int length = 0;
        for (int s = 0; s < street.length; s++) {
            if (!now.wall[s]) {
                open++;
                length += street[s][2];
                boolean[] wall = now.wall.clone();
                wall[s] = true;
                bridges |= parts(wall) > parts(now.wall) ? 1 << s : 0;
            }
        }
        int[] degree = new int[corners];
        int[] farthest = new int[corners];
        int dark = 0;
        for (int c = 0; c < corners; c++) {
            degree[c] = openAt(now.wall, c).size();
            farthest[c] = Arrays.stream(farTable(now.wall)[c]).max().getAsInt();
            dark |= (chapels >> c & 1) == 1 && now.lamp[c] == 0 ? 1 << c : 0;
        }
        int[] answers = {chapels, bridges, parts(now.wall), open - (corners - parts(now.wall)), firstMost(now.mark, 1),
            firstMost(degree, -1), firstMost(degree, 1), firstMost(now.faith, 1), firstMost(farthest, 1),
            firstMost(farthest, -1), length, dark};
        return answers[what];
    }

    private static int firstMost(int[] row, int sign) {
        int best = 0;
        for (int i = row.length - 1; i >= 0; i--) {
            if (sign * row[i] >= sign * row[best]) {
                best = i;
            }
        }
        return best;
    }

    // ---- acts

    private void keep() {
        acts.push(now.copy());
        if (acts.size() > 40) {
            acts.removeLast();
        }
    }

    private boolean pay(int price) {
        if (now.coins < price) {
            return false;
        }
        keep();
        now.coins -= price;
        return true;
    }

    int day() {
        if (corners == 0 || now.day == 999) {
            return NONE;
        }
        keep();
        return pass(now);
    }

    int wall(int s) {
        if (s < 0 || s >= street.length || !pay(3)) {
            return NONE;
        }
        now.wall[s] = !now.wall[s];
        return now.wall[s] ? 1 : 0;
    }

    int lamp(int c) {
        return !corner(c) || now.lamp[c] == 3 || !pay(2) ? NONE : ++now.lamp[c];
    }

    int moves(int w, int c) {
        if (!isWalker(w) || !corner(c) || now.home[w] == c || !pay(1)) {
            return NONE;
        }
        int was = now.home[w];
        now.home[w] = c;
        return was;
    }

    int preach(int w) {
        return !isWalker(w) || now.faith[w] == 9 || !pay(4) ? NONE : ++now.faith[w];
    }

    int give(int n) {
        return corners == 0 || n < 1 || n > 50 || now.coins + n > 999 || !pay(-n) ? NONE : now.coins;
    }

    private long x;

    private int draw(int j) {
        x = x * 6364136223846793005L + 1442695040888963407L;
        return (int) Long.remainderUnsigned(x >>> 33, j);
    }

    int years(int n, long seed) {
        if (corners == 0 || n < 1 || n > 30 || now.day + n > 999) {
            return NONE;
        }
        x = seed;
        for (int i = 0; i < n; i++) {
            keep();
            if (draw(10) < council) {
                int s = draw(street.length);
                now.wall[s] = !now.wall[s];
            } else {
                int w = draw(walkers);
                now.home[w] = draw(corners);
            }
            pass(now);
        }
        return now.day;
    }

    int undo() {
        if (acts.isEmpty()) {
            return NONE;
        }
        now = acts.pop();
        return acts.size();
    }

    int log(int i, int what) {
        if (i < 0 || i >= Math.min(60, now.log.size()) || what < 0 || what > 2) {
            return NONE;
        }
        return now.log.get(now.log.size() - 1 - i)[what];
    }

    int image() {
        if (corners == 0) {
            return NONE;
        }
        image = now.copy();
        return now.day;
    }

    int back() {
        if (image == null) {
            return NONE;
        }
        now = image.copy();
        acts.clear();
        return now.day;
    }

    int count(int what) {
        switch (what) {
            case 0: return corners;
            case 1: return street.length;
            case 2: return walkers;
            case 3: return laws.size();
            case 4: return walks.size();
            case 6: return holding;
            case 7: return now.day;
            case 8: return now.coins;
            case 9: return council;
            case 10: return seen.size();
            case 11: return Math.min(60, now.log.size());
            case 12: return acts.size();
            default: return HIDDEN;
        }
    }
}
