import java.util.NoSuchElementException;

/** Random runs of calls: the program and the plain model must answer alike. */
public final class ModelTest {
    private static final int RUNS = 2500;
    private static final int MOST_CALLS = 512;
    /** So many calls the longest round takes: a text of 240 bytes, or 45 acts undone. */
    private static final int LONGEST_ROUND = 50;

    private final Kit.Dice dice;
    private final WallChapels x = new WallChapels();
    private final TownModel m = new TownModel();
    private final int run;
    private int calls = 0;
    private final StringBuilder story = new StringBuilder();

    private ModelTest(int run) {
        this.run = run;
        this.dice = new Kit.Dice(run);
    }

    public static void main(String[] args) {
        int runs = args.length > 0 ? Integer.parseInt(args[0]) : RUNS;
        for (int run = 1; run <= runs && !Kit.hasFailed(); run++) {
            ModelTest test = new ModelTest(run);
            while (test.calls <= MOST_CALLS - LONGEST_ROUND && !Kit.hasFailed()) {
                test.round();
            }
            while (test.calls < MOST_CALLS && !Kit.hasFailed()) {
                test.read();
            }
            if (Kit.hasFailed()) {
                System.out.println(test.story);
            }
        }
        Kit.close();
    }

    private void same(String what, long got, long due) {
        calls++;
        story.append(what).append(" -> ").append(got).append('\n');
        Kit.same("run " + run + ": " + what, got, due);
    }

    private int any(int least, int most) {
        return dice.oneIn(25) ? least - 1 - dice.roll(3) : dice.oneIn(25) ? most + 1 + dice.roll(3) : dice.between(least, most);
    }

    private void round() {
        if (calls == 0 && !dice.oneIn(8) || dice.oneIn(150)) {
            newTown();
        } else if (dice.oneIn(60)) {
            newLaw();
        } else if (dice.oneIn(60)) {
            newWalk();
        } else if (dice.oneIn(2)) {
            act();
        } else if (dice.oneIn(3)) {
            read();
        } else {
            ask();
        }
    }

    private int tell(int sort, String text) {
        calls += 1 + (text.length() + 19) / 20;
        story.append("TEXT ").append(text).append('\n');
        return Kit.told(x, sort, text);
    }

    private String told(char letter, int value, int without) {
        if (value == without && dice.oneIn(2)) {
            return "";
        }
        return letter + (value < 10 && dice.oneIn(10) ? "0" : "") + value;
    }

    private void newTown() {
        int corners = dice.between(2, 8);
        int coins = dice.oneIn(2) ? 99 : dice.roll(100);
        int streets = dice.between(1, dice.oneIn(2) ? 12 : 7);
        int walkers = dice.between(1, 4);
        boolean rulesFirst = dice.oneIn(2);
        String rules = "s" + told('k', coins, 20) + told('n', corners, 4);
        StringBuilder b = new StringBuilder(rulesFirst ? rules + ";" : "");
        int[][] street = new int[streets][];
        for (int s = 0; s < streets; s++) {
            int a = dice.roll(corners);
            int other = (a + 1 + dice.roll(corners - 1)) % corners;
            street[s] = new int[] {a, other, dice.oneIn(3) ? dice.between(1, 3) : dice.between(1, 40), dice.oneIn(3) ? 1 : 0};
            b.append("e").append(told('w', street[s][3], 0)).append(told('a', a, 0)).append(told('y', street[s][2], 5));
            b.append(told('b', other, 1)).append(";");
        }
        int[][] walker = new int[walkers][];
        for (int w = 0; w < walkers; w++) {
            walker[w] = new int[] {dice.roll(corners), dice.roll(10)};
            b.append(w > 0 ? ";" : "").append("p").append(told('f', walker[w][1], 4)).append(told('h', walker[w][0], 0));
        }
        b.append(rulesFirst ? "" : ";" + rules);
        same("text(0)", tell(0, b.toString()), streets);
        m.settle(corners, coins, street, walker);
    }

    private void newLaw() {
        LawModel law = new LawModel(dice, 2);
        for (int tries = 0; law.text.length() > 240 && tries < 100; tries++) {
            law = new LawModel(dice, 1);
        }
        if (law.text.length() > 240) {
            return;
        }
        int due = m.laws.size() < 4 ? m.laws.size() : -1;
        same("text(1)", tell(1, law.text), due);
        if (due >= 0) {
            m.laws.add(law);
            m.holding = due;
            same("law", x.law(due) ? 1 : 0, 1);
        }
    }

    private void newWalk() {
        int[] stops = new int[dice.between(1, 16)];
        StringBuilder b = new StringBuilder();
        for (int i = 0; i < stops.length; i++) {
            stops[i] = dice.roll(m.corners > 0 && !dice.oneIn(10) ? m.corners : 8);
            if (i > 0 && m.corners > 0 && stops[i - 1] < m.corners && !dice.oneIn(6)) {
                // Mostly along a street, so that walks get somewhere.
                for (int tries = 0; tries < 10; tries++) {
                    int[] s = m.street[dice.roll(m.street.length)];
                    if (s[0] == stops[i - 1] || s[1] == stops[i - 1]) {
                        stops[i] = s[0] + s[1] - stops[i - 1];
                    }
                }
            }
            b.append(stops[i]).append(dice.oneIn(8) ? " " : "");
        }
        int due = m.walks.size() < 4 ? m.walks.size() : -1;
        same("text(2)", tell(2, b.toString()), due);
        if (due >= 0) {
            m.walks.add(stops);
        }
    }

    private void act() {
        int a = any(0, 3);
        int c = any(0, Math.max(0, m.corners - 1));
        switch (dice.roll(13)) {
            case 0: case 1: same("day()", x.day(), m.day()); break;
            case 2: case 3: {
                int s = any(0, Math.max(0, m.street.length - 1));
                same("wall(" + s + ")", x.wall(s), m.wall(s));
                break;
            }
            case 4: same("lamp(" + c + ")", x.lamp(c), m.lamp(c)); break;
            case 5: same("moves(" + a + ", " + c + ")", x.moves(a, c), m.moves(a, c)); break;
            case 6: same("preach(" + a + ")", x.preach(a), m.preach(a)); break;
            case 7: {
                int n = any(1, 50);
                same("give(" + n + ")", x.give(n), m.give(n));
                break;
            }
            case 8: {
                int n = any(1, 30);
                long seed = dice.wide();
                same("years(" + n + ", " + seed + ")", x.years(n, seed), m.years(n, seed));
                break;
            }
            case 9: {
                int v = any(0, 9);
                boolean due = v >= 0 && v <= 9 && v != m.council;
                m.council = due ? v : m.council;
                same("council(" + v + ")", x.council(v) ? 1 : 0, due ? 1 : 0);
                break;
            }
            case 10: {
                int v = dice.between(-2, 4);
                boolean due = v >= -1 && v < m.laws.size();
                m.holding = due ? v : m.holding;
                same("law(" + v + ")", x.law(v) ? 1 : 0, due ? 1 : 0);
                break;
            }
            case 11: {
                if (dice.oneIn(3)) {
                    boolean really = !dice.oneIn(4) && m.corner(c) ? m.chapel(m.now.wall, c) : dice.oneIn(2);
                    same("seen(" + c + ", " + really + ")", x.seen(c, really), m.seen(c, really));
                }
                break;
            }
            default: undoOrImage(); break;
        }
    }

    private void undoOrImage() {
        int times = dice.oneIn(6) ? 45 : dice.between(1, 4);
        switch (dice.roll(5)) {
            case 0: same("image()", x.image(), m.image()); break;
            case 1: same("back()", x.back(), m.back()); break;
            default:
                for (int i = 0; i < times; i++) {
                    same("undo()", x.undo(), m.undo());
                }
                break;
        }
    }

    private void ask() {
        int w = any(0, 3);
        int v = any(0, 3);
        int c = any(0, Math.max(0, m.corners - 1));
        int e = any(0, Math.max(0, m.corners - 1));
        int i = dice.between(-2, 6);
        switch (dice.roll(21)) {
            case 0: same("far(" + c + ", " + e + ")", x.far(c, e), m.far(c, e)); break;
            case 1: same("way(" + c + ", " + e + ")", x.way(c, e), m.way(c, e)); break;
            case 2: same("feast(" + c + ", 0)", x.feast(c, 0), m.feast(c, 0)); break;
            case 3: same("feast(" + c + ", 1)", x.feast(c, 1), m.feast(c, 1)); break;
            case 4: same("soon(" + w + ")", x.soon(w), m.soon(w)); break;
            case 5: {
                int depth = any(1, dice.oneIn(2) ? 60 : 999);
                same("worn(" + c + ", " + depth + ")", x.worn(c, depth), m.worn(c, depth));
                break;
            }
            case 6: same("knocked(" + i + ")", x.knocked(i), m.knocked(i)); break;
            case 7: same("ask()", x.ask(), m.ask()); break;
            case 8: {
                int set = any(1, Math.max(1, (1 << m.corners) - 1));
                set = dice.oneIn(2) ? set & -set : set;
                same("walls(" + set + ")", x.walls(set), m.walls(set));
                break;
            }
            case 9: same("parted(" + c + ", " + e + ")", x.parted(c, e), m.parted(c, e)); break;
            case 10: same("draws(" + w + ", " + c + ")", x.draws(w, c), m.draws(w, c)); break;
            case 11: same("goes(" + w + ")", x.goes(w), m.goes(w)); break;
            case 12: same("goers(" + c + ")", x.goers(c), m.goers(c)); break;
            case 13: {
                int a = any(0, 7);
                int b = any(0, 7);
                int what = any(0, 1);
                same("game(" + w + ", " + v + ", " + a + ", " + b + ", " + what + ")", x.game(w, v, a, b, what), m.game(w, v, a, b, what));
                break;
            }
            case 14: same("rests(" + w + ", " + v + ", " + i + ")", x.rests(w, v, i), m.rests(w, v, i)); break;
            case 15: {
                int chance = any(0, 100);
                same("odds(" + w + ", " + chance + ")", x.odds(w, chance), m.odds(w, chance));
                break;
            }
            case 16: {
                int n = any(0, 999);
                same("shares(" + c + ", " + n + ")", x.shares(c, n), m.shares(c, n));
                break;
            }
            case 17: {
                int what = any(0, 11);
                same("all(" + what + ")", x.all(what), m.all(what));
                break;
            }
            case 18: {
                int yards = any(0, 99);
                same("around(" + c + ", " + yards + ")", x.around(c, yards), m.around(c, yards));
                break;
            }
            case 19: {
                int what = any(0, 2);
                int entry = dice.oneIn(3) ? dice.between(55, 62) : dice.between(-1, 60);
                same("log(" + entry + ", " + what + ")", x.log(entry, what), m.log(entry, what));
                break;
            }
            default: {
                int what = any(0, 2);
                same("check(" + w + ", " + what + ")", x.check(w, what), m.check(w, what));
                break;
            }
        }
    }

    /** One thing of the state as it is. */
    private void read() {
        switch (dice.roll(5)) {
            case 0: readCount(); break;
            case 1: readCorner(); break;
            case 2: readStreet(); break;
            case 3: readWalker(); break;
            default: readWalk(); break;
        }
    }

    private void readCount() {
        int what = any(0, 12);
        if (what != 5) {
            same("count(" + what + ")", x.count(what), m.count(what));
        }
    }

    private void readCorner() {
        int c = any(0, Math.max(0, m.corners - 1));
        int what = any(0, 2);
        int due = !m.corner(c) ? -1 : what == 0 ? m.now.mark[c] : what == 1 ? m.now.lamp[c]
            : what == 2 ? m.openAt(m.now.wall, c).size() : -1;
        same("corner(" + c + ", " + what + ")", x.corner(c, what), due);
    }

    private void readStreet() {
        int s = any(0, Math.max(0, m.street.length - 1));
        int what = any(0, 3);
        boolean is = s >= 0 && s < m.street.length && what >= 0 && what < 4;
        int due = !is ? -1 : what < 3 ? m.street[s][what] : m.now.wall[s] ? 1 : 0;
        same("street(" + s + ", " + what + ")", x.street(s, what), due);
    }

    private void readWalker() {
        int w = any(0, 3);
        int what = any(0, 1);
        int due = !m.isWalker(w) || what < 0 || what > 1 ? -99 : what == 0 ? m.now.home[w] : m.now.faith[w];
        same("walker(" + w + ", " + what + ")", walkerOf(w, what), due);
    }

    private void readWalk() {
        int k = any(0, 3);
        int i = any(-1, 15);
        boolean is = k >= 0 && k < m.walks.size();
        int due = is && i == -1 ? m.walks.get(k).length : is && i >= 0 && i < m.walks.get(k).length ? m.walks.get(k)[i] : -1;
        same("walk(" + k + ", " + i + ")", x.walk(k, i), due);
    }

    private int walkerOf(int walker, int what) {
        try {
            return x.walker(walker, what);
        } catch (NoSuchElementException e) {
            return -99;
        }
    }
}
