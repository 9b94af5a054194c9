import java.util.NoSuchElementException;

/**
 * Every argument of every call, just within and just outside of its bounds, in towns of the fewest,
 * some and the most corners, streets and walkers: the numbers are those of the promises.
 */
public final class ArgumentsTest {
    private static final int NONE = WallChapels.NONE;
    private static final int HIDDEN = WallChapels.HIDDEN;
    private static final int THROWN = -99;
    /** So many next to each bound are tried, all of a short row. */
    private static final int NEAR = 32;
    /** Far outside; those beyond 31 show a shift that goes round. */
    private static final int[] FAR_OUT = {31, 32, 33, 64, 100, 256, 1000, 4096, 65536, 1 << 30, Integer.MAX_VALUE};

    private interface Call {
        long of(WallChapels x, int v);
    }

    private final int corners;
    private final int streets;
    private final int walkers;

    private ArgumentsTest(int corners, int streets, int walkers) {
        this.corners = corners;
        this.streets = streets;
        this.walkers = walkers;
    }

    public static void main(String[] args) {
        new ArgumentsTest(2, 1, 1).run();
        new ArgumentsTest(5, 6, 3).run();
        new ArgumentsTest(8, 12, 4).run();
        withoutTown();
        Kit.close();
    }

    private void run() {
        texts();
        things();
        acts();
        walksAndWays();
        ahead();
        seenAndWalls();
        draws();
        ofTwo();
        whole();
    }

    /** A row of corners 0, 1, .. with an open street to the next; all other streets have walls. Three days have passed. */
    private WallChapels made() {
        StringBuilder b = new StringBuilder("sn").append(corners).append("k99");
        for (int s = 0; s < streets; s++) {
            int a = s % (corners - 1);
            b.append(";ea").append(a).append("b").append(a + 1).append("y").append(1 + s).append(s < corners - 1 ? "" : "w1");
        }
        for (int w = 0; w < walkers; w++) {
            b.append(";p");
        }
        WallChapels x = Kit.town(b.toString());
        Kit.told(x, 1, "y:7");
        Kit.told(x, 1, "y:8");
        Kit.told(x, 2, "010");
        Kit.told(x, 2, "01");
        for (int i = 0; i < 3; i++) {
            x.day();
        }
        return x;
    }

    /** Outside of least .. most the call is refused; with sure, within never. */
    private void bounds(String what, int least, int most, long refused, boolean sure, Call call) {
        String where = "of " + corners + ": " + what;
        outside(where, least - 1, refused, call);
        outside(where, most + 1, refused, call);
        for (int far : FAR_OUT) {
            outside(where, least - far, refused, call);
            if (far > most) {
                outside(where, far, refused, call);
            }
            if (most + far > most) {
                outside(where, most + far, refused, call);
            }
        }
        outside(where, Integer.MIN_VALUE, refused, call);
        for (int v = least; sure && v <= most; v++) {
            if (v < least + NEAR || v > most - NEAR) {
                Kit.same(where + " " + v + " is refused", call.of(made(), v) == refused, false);
            }
        }
    }

    private void outside(String where, int v, long refused, Call call) {
        Kit.same(where + " " + v, call.of(made(), v), refused);
    }

    // 3, 4, 5, 9, 10, 20
    private void texts() {
        bounds("3: end", 0, 7, 0, true, (x, v) -> {
            Kit.tape(x, "0123456");
            return x.end(v) ? 1 : 0;
        });
        bounds("4: fault", 0, 2, -2, true, WallChapels::fault);
        bounds("5: text of a town", 0, 0, NONE, true, (x, v) -> {
            Kit.tape(x, "e;p");
            return x.text(v);
        });
        bounds("5: text of a law", 1, 1, NONE, true, (x, v) -> {
            Kit.tape(x, "y:1");
            return x.text(v);
        });
        bounds("5: text of a walk", 2, 2, NONE, true, (x, v) -> {
            Kit.tape(x, "0");
            return x.text(v);
        });
        bounds("9: law", NONE, 1, 0, true, (x, v) -> x.law(v) ? 1 : 0);
        bounds("10: council", 0, 9, 0, true, (x, v) -> {
            x.council(v == 1 ? 2 : 1);
            return x.council(v) ? 1 : 0;
        });
        bounds("20: walk", 0, 1, NONE, true, (x, v) -> x.walk(v, NONE));
        bounds("20: i", NONE, 2, NONE, true, (x, v) -> x.walk(0, v));
        bounds("20: i of the other", NONE, 1, NONE, true, (x, v) -> x.walk(1, v));
    }

    private static long walkerOf(WallChapels x, int walker, int what) {
        try {
            return x.walker(walker, what);
        } catch (NoSuchElementException e) {
            return THROWN;
        }
    }

    // 6, 7, 8, 19, 43
    private void things() {
        for (int k = 0; k <= 3; k++) {
            int what = k;
            if (what < 3) {
                bounds("6: corner, " + what, 0, corners - 1, NONE, true, (x, v) -> x.corner(v, what));
                bounds("19: i, " + what, 0, 2, NONE, true, (x, v) -> x.log(v, what));
            }
            if (what < 2) {
                bounds("8: walker, " + what, 0, walkers - 1, THROWN, true, (x, v) -> walkerOf(x, v, what));
            }
            bounds("7: street, " + what, 0, streets - 1, NONE, true, (x, v) -> x.street(v, what));
        }
        bounds("6: what", 0, 2, NONE, true, (x, v) -> x.corner(corners - 1, v));
        bounds("7: what", 0, 3, NONE, true, (x, v) -> x.street(streets - 1, v));
        bounds("8: what", 0, 1, THROWN, true, (x, v) -> walkerOf(x, walkers - 1, v));
        bounds("19: what", 0, 2, NONE, true, (x, v) -> x.log(2, v));
        bounds("43: what", 0, 12, HIDDEN, true, WallChapels::count);
    }

    // 12 to 17
    private void acts() {
        bounds("12: street", 0, streets - 1, NONE, true, WallChapels::wall);
        bounds("13: corner", 0, corners - 1, NONE, true, WallChapels::lamp);
        bounds("14: walker", 0, walkers - 1, NONE, true, (x, v) -> x.moves(v, 1));
        // Their home is 0, and it is so.
        bounds("14: corner", 1, corners - 1, NONE, true, (x, v) -> x.moves(0, v));
        bounds("15: walker", 0, walkers - 1, NONE, true, WallChapels::preach);
        bounds("16: n", 1, 50, NONE, true, WallChapels::give);
        bounds("17: n", 1, 30, NONE, true, (x, v) -> x.years(v, 5));
    }

    // 21 to 24, 40
    private void walksAndWays() {
        bounds("21: walk", 0, 1, HIDDEN, true, (x, v) -> x.check(v, 1));
        bounds("21: what", 0, 2, HIDDEN, true, (x, v) -> x.check(1, v));
        bounds("22: one", 0, corners - 1, NONE, true, (x, v) -> x.far(v, 1));
        bounds("22: other", 0, corners - 1, NONE, true, (x, v) -> x.far(1, v));
        bounds("23: one", 0, corners - 1, NONE, true, (x, v) -> x.way(v, 1));
        bounds("23: other", 0, corners - 1, NONE, true, (x, v) -> x.way(1, v));
        bounds("24: corner, YARDS", 0, corners - 1, NONE, true, (x, v) -> x.feast(v, 0));
        bounds("24: corner, row", 0, corners - 1, NONE, true, (x, v) -> x.feast(v, 1));
        bounds("24: what", 0, 1, NONE, true, (x, v) -> x.feast(corners - 1, v));
        bounds("40: corner", 0, corners - 1, NONE, true, (x, v) -> x.around(v, 1));
        bounds("40: v", 0, 99, NONE, true, (x, v) -> x.around(corners - 1, v));
    }

    // 25, 26
    private void ahead() {
        bounds("25: walker", 0, walkers - 1, NONE, true, (x, v) -> {
            shutAll(x);
            return x.soon(v);
        });
        bounds("26: corner", 0, corners - 1, NONE, false, (x, v) -> x.worn(v, 1));
        bounds("26: v", 1, Math.min(999, 63 * walkers), NONE, true, (x, v) -> x.worn(0, v));
    }

    private void shutAll(WallChapels x) {
        for (int s = 0; s < corners - 1; s++) {
            x.wall(s);
        }
    }

    // 27, 28, 30, 31
    private void seenAndWalls() {
        bounds("27: corner, true", 0, corners - 1, NONE, true, (x, v) -> x.seen(v, true));
        bounds("27: corner, false", 0, corners - 1, NONE, true, (x, v) -> x.seen(v, false));
        bounds("28: i", NONE, streets - corners + 1, NONE, true, WallChapels::knocked);
        bounds("30: corners", 1, (1 << corners) - 1, NONE, false, WallChapels::walls);
        bounds("31: one", 1, corners - 1, NONE, true, (x, v) -> x.parted(v, 0));
        bounds("31: other", 1, corners - 1, NONE, true, (x, v) -> x.parted(0, v));
        bounds("31: one to the last", 0, corners - 2, NONE, true, (x, v) -> x.parted(v, corners - 1));
        bounds("31: other to the last", 0, corners - 2, NONE, true, (x, v) -> x.parted(corners - 1, v));
    }

    // 32, 33, 34, 37, 38
    private void draws() {
        bounds("32: walker", 0, walkers - 1, HIDDEN, true, (x, v) -> x.draws(v, 0));
        bounds("32: corner", 0, corners - 1, HIDDEN, corners == 2, (x, v) -> x.draws(0, v));
        bounds("33: walker", 0, walkers - 1, NONE, true, WallChapels::goes);
        bounds("34: corner", 0, corners - 1, NONE, true, WallChapels::goers);
        bounds("37: walker", 0, walkers - 1, NONE, true, (x, v) -> x.odds(v, 5));
        bounds("37: chance", 0, 100, NONE, true, (x, v) -> x.odds(walkers - 1, v));
        bounds("38: corner", 0, corners - 1, NONE, true, (x, v) -> x.shares(v, 5));
        bounds("38: c", 0, 999, NONE, true, (x, v) -> x.shares(0, v));
    }

    // 35, 36: of two walkers, so that one alone is refused always
    private void ofTwo() {
        bounds("35: one", 1, walkers - 1, HIDDEN, true, (x, v) -> x.game(v, 0, 0, 0, 0));
        bounds("35: other", 1, walkers - 1, HIDDEN, true, (x, v) -> x.game(0, v, 0, 0, 1));
        bounds("36: one", 1, walkers - 1, NONE, true, (x, v) -> x.rests(v, 0, NONE));
        bounds("36: other", 1, walkers - 1, NONE, true, (x, v) -> x.rests(0, v, NONE));
        if (walkers > 1) {
            int last = walkers - 1;
            bounds("35: x", 0, 7, HIDDEN, true, (x, v) -> x.game(0, last, v, 0, 0));
            bounds("35: y", 0, 7, HIDDEN, true, (x, v) -> x.game(0, last, 0, v, 0));
            bounds("35: what", 0, 1, HIDDEN, true, (x, v) -> x.game(0, last, 0, 0, v));
            int rests = made().rests(0, last, NONE);
            bounds("36: i", NONE, rests - 1, NONE, true, (x, v) -> x.rests(0, last, v));
        }
    }

    // 39
    private void whole() {
        bounds("39: what", 0, 11, NONE, true, WallChapels::all);
    }

    private static void refused(String what, long got, long due) {
        Kit.same("without a TOWN: " + what, got, due);
    }

    /** Without a town there is no corner, no street, no walker, and none of the walks can be walked. */
    private static void withoutTown() {
        for (int v = -1; v <= 8; v++) {
            WallChapels x = new WallChapels();
            Kit.told(x, 2, "01");
            refused("6", x.corner(v, 0), NONE);
            refused("7", x.street(v, 0), NONE);
            refused("8", walkerOf(x, v, 0), THROWN);
            refused("12", x.wall(v), NONE);
            refused("13", x.lamp(v), NONE);
            refused("14", x.moves(v, 1), NONE);
            refused("14", x.moves(0, v), NONE);
            refused("15", x.preach(v), NONE);
            refused("16", x.give(v), NONE);
            refused("17", x.years(v, 1), NONE);
            refused("19", x.log(v, 2), NONE);
            refused("21", x.check(0, v), HIDDEN);
            refused("22", x.far(v, v), NONE);
            refused("23", x.way(v, v), NONE);
            refused("24", x.feast(v, 0), NONE);
            refused("25", x.soon(v), NONE);
            refused("26", x.worn(v, 1), NONE);
            refused("27", x.seen(v, false), NONE);
            refused("28", x.knocked(v), NONE);
            refused("30", x.walls(v), NONE);
            refused("31", x.parted(v, 1), NONE);
            refused("31", x.parted(0, v), NONE);
            refused("32", x.draws(v, 0), HIDDEN);
            refused("32", x.draws(0, v), HIDDEN);
            refused("33", x.goes(v), NONE);
            refused("34", x.goers(v), NONE);
            refused("35", x.game(0, 1, 0, 0, v), HIDDEN);
            refused("36", x.rests(0, 1, v), NONE);
            refused("37", x.odds(v, 0), NONE);
            refused("38", x.shares(v, 0), NONE);
            refused("39", x.all(v), NONE);
            refused("40", x.around(v, 0), NONE);
        }
        WallChapels x = new WallChapels();
        refused("11", x.day(), NONE);
        refused("18", x.undo(), NONE);
        refused("29", x.ask(), NONE);
        refused("41", x.image(), NONE);
        refused("42", x.back(), NONE);
    }
}
