import java.math.BigInteger;

/**
 * The edges that the sentences behind the texts name (Terms, paragraphs 2 to 4, promises 6 to 43):
 * too few and just enough coins, full, empty, cut, of several the lowest, going round.
 */
public final class EdgesTest {
    private static final int NONE = WallChapels.NONE;
    private static final int HIDDEN = WallChapels.HIDDEN;
    /** Corners 0 .. 6 hang at corner 7 by streets of 1 to 7 yards: seven chapels, 7 the one that is none. */
    private static final String STAR = "sn8k99;ea7b0y1;ea7b1y2;ea7b2y3;ea7b3y4;ea7b4y5;ea7b5y6;ea7b6y7;ph7;ph7";

    public static void main(String[] args) {
        openStreets();
        severalStreets();
        drawsCut();
        drawsByLaw();
        goesToTheLowest();
        marksAsTheyAreThen();
        lapses();
        coinsOfADay();
        marksAtMost();
        daysAtMost();
        prices();
        lampsAtMost();
        moveBackAndForth();
        faithAtMost();
        gifts();
        logIsFull();
        logOfOneDayAlone();
        actsAreFull();
        eachActIsOne();
        walks();
        ways();
        feasts();
        soonAndWorn();
        seenIsFull();
        knockedByWhatWasSeen();
        askOfSeveral();
        fewestWalls();
        fewestParting();
        games();
        rests();
        oddsCut();
        sharesCut();
        nothingOpen();
        allOpen();
        parts();
        ofSeveralTheLowest();
        farthest();
        dark();
        around();
        yearsDrawn();
        yearsAheadOfEachDay();
        yearsGoRound();
        yearsAtMost();
        images();
        imagesOfTheLog();
        imagesAndUndo();
        eachCornerAndWalkerAgain();
        countsOfATown();
        Kit.close();
    }

    private static void is(String what, long got, long due) {
        Kit.same(what, got, due);
    }

    private static WallChapels coins(int coins, String rest) {
        WallChapels x = Kit.town("sk" + Math.min(99, coins) + ";" + rest);
        for (int left = coins - 99; left > 0; left -= 50) {
            x.give(Math.min(50, left));
        }
        is("COINS " + coins, x.count(8), coins);
        return x;
    }

    // ---- paragraph 2, promises 6 to 19

    // A CHAPEL: a CORNER with just one OPEN STREET
    private static void openStreets() {
        for (int open = 0; open <= 11; open++) {
            StringBuilder b = new StringBuilder("sn8;p");
            for (int s = 0; s < 12; s++) {
                b.append(";ea7b").append(s % 7).append(s < open ? "" : "w1");
            }
            WallChapels x = Kit.town(b.toString());
            is("6: open at 7", x.corner(7, 2), open);
            is("2: a chapel with " + open, x.all(0) >> 7, open == 1 ? 1 : 0);
            for (int c = 0; c < 7; c++) {
                int here = (c < open ? 1 : 0) + (c + 7 < open ? 1 : 0);
                is("6: open at " + c, x.corner(c, 2), here);
                is("2: a chapel " + c + " of " + open, x.all(0) >> c & 1, here == 1 ? 1 : 0);
            }
        }
    }

    // there may be several between two CORNERS: the shortest that is open counts, wherever it stands
    private static void severalStreets() {
        String[] towns = {"ey9;ey4;ey6;p", "ey4;ey9;ey6;p", "ea1b0y9;ea0b1y6;ea1b0y4;p"};
        int[] shortest = {1, 0, 2};
        int[] second = {2, 2, 1};
        for (int i = 0; i < 3; i++) {
            WallChapels x = Kit.town(towns[i]);
            Kit.told(x, 2, "01010");
            is("22: the shortest of three", x.far(0, 1), 4);
            is("22: and back", x.far(1, 0), 4);
            is("21: the shortest each time", x.check(0, 1), 16);
            is("2: no chapel by three", x.all(0), 0);
            is("40: within 4", x.around(0, 4), 3);
            is("40: within 3", x.around(0, 3), 1);
            x.wall(shortest[i]);
            is("22: the next one", x.far(0, 1), 6);
            is("21: the next one", x.check(0, 1), 24);
            x.wall(second[i]);
            is("22: the last", x.far(0, 1), 9);
            is("2: chapels by one", x.all(0), 3);
        }
    }

    // none at first: FAITH and half its MARK, cut, and 2 for each LAMP, less YARDS by 3, cut
    private static void drawsCut() {
        for (int yards = 1; yards <= 40; yards++) {
            WallChapels x = Kit.town("sk6;ey" + yards + ";pf0");
            is("32: YARDS " + yards, x.draws(0, 1), -(yards / 3));
            is("32: at HOME", x.draws(0, 0), 0);
        }
        for (int faith = 0; faith <= 9; faith++) {
            is("32: FAITH " + faith, Kit.town("e;pf" + faith).draws(0, 0), faith);
        }
        WallChapels x = Kit.town("e;p");
        for (int mark = 1; mark <= 7; mark++) {
            x.day();
            is("32: MARK " + mark, x.draws(0, 0), 4 + mark / 2);
        }
        WallChapels y = Kit.town("ey5;p");
        for (int lamps = 1; lamps <= 3; lamps++) {
            y.lamp(1);
            is("32: LAMPS " + lamps, y.draws(0, 1), 3 + 2 * lamps);
        }
        is("32: no LAMPS at the other", y.draws(0, 0), 4);
    }

    // letters: y YARDS, w MARK, f FAITH, l LAMPS, c how many CHAPELS there are, d the DAY
    private static void drawsByLaw() {
        WallChapels x = Kit.town("sn6k99;ey7;ea2b3;ea4b5w1;pf6;pf3");
        String[] laws = {"y:y*10+w", "y:f*10+l", "y:c*10+d", "y:0-y"};
        for (int i = 0; i < 4; i++) {
            is("5: law", Kit.told(x, 1, laws[i]), i);
        }
        x.lamp(1);
        x.day();
        x.day();
        x.day();
        int[][] due = {{6, 76}, {60, 61}, {43, 43}, {0, -7}};
        for (int i = 0; i < 4; i++) {
            x.law(i);
            is("32: " + laws[i] + " at 0", x.draws(0, 0), i == 0 ? x.corner(0, 0) : due[i][0]);
            is("32: " + laws[i] + " at 1", x.draws(0, 1), i == 0 ? 70 + x.corner(1, 0) : due[i][1]);
            is("32: no way by " + laws[i], x.draws(0, 2), HIDDEN);
            is("32: no chapel by " + laws[i], x.draws(0, 4), HIDDEN);
        }
        x.law(1);
        is("32: the other's FAITH", x.draws(1, 1), 31);
        x.law(NONE);
        is("32: none again", x.draws(0, 0), 6 + x.corner(0, 0) / 2);
    }

    // He GOES to the one that DRAWS most (of several the lowest), if there is any
    private static void goesToTheLowest() {
        WallChapels x = Kit.town(STAR);
        // 4 less 0, 0, 1, 1, 1, 2, 2
        is("33: the lowest of two", x.goes(0), 0);
        x.lamp(6);
        is("33: the one with a LAMP, of three the lowest", x.goes(0), 0);
        x.lamp(6);
        is("33: more", x.goes(0), 6);
        x.lamp(3);
        x.lamp(3);
        is("33: most", x.goes(0), 3);
        is("34: both", x.goers(3), 3);
        is("34: no chapel", x.goers(7), 0);
        Kit.hold(x, "y:0-99");
        is("33: least of all", x.goes(0), 0);
        Kit.hold(x, "y:y=7?0-98;y:0-99");
        is("33: a little more", x.goes(0), 6);
        for (int s = 0; s < 7; s++) {
            is("33: the lowest that is left", Kit.town(STAR.replace("y" + (s + 1) + ";", "y" + (s + 1) + "w1;")).goes(0), s == 0 ? 1 : 0);
        }
        WallChapels far = Kit.town("ea0b1y40;ea1b2y40;ph1f0");
        is("33: below 0", far.goes(0), 0);
        is("33: nowhere", Kit.town("ew1;p").goes(0), NONE);
        is("33: a chapel, but no way", Kit.town("ea2b3;p").goes(0), NONE);
        is("34: nobody there", Kit.town("ea2b3;p").goers(2), 0);
    }

    // each WALKER by numbers GOES (MARKS as they are then)
    private static void marksAsTheyAreThen() {
        WallChapels x = Kit.town("ea1b0y5;ea1b2y5;ph1;ph1;ph1;ph1");
        Kit.hold(x, "y:0-w");
        is("11: four went", x.day(), 4);
        is("11: two to 0", x.corner(0, 0), 2);
        is("11: two to 2", x.corner(2, 0), 2);
        is("34: before the next DAY all", x.goers(0), 15);
        // by twos: the second makes half a mark more
        WallChapels y = Kit.town("ea1b0y3;ea1b2y2;ph1f0;ph1f1;ph1f2");
        is("11: three went", y.day(), 3);
        is("11: all to 2", y.corner(2, 0), 3);
        is("19: CHAPELS", y.log(0, 0), 4);
        for (int walkers = 1; walkers <= 4; walkers++) {
            WallChapels z = Kit.town("e" + ";p".repeat(walkers));
            is("11: all went", z.day(), walkers);
            is("11: all to 0", z.corner(0, 0), walkers);
            is("19: one CHAPEL, by however many", z.log(0, 0), 1);
        }
    }

    // is there none, he LAPSES: FAITH one less (0 at least)
    private static void lapses() {
        WallChapels x = Kit.town("sn4k9;e;ph0f0;ph2f0;ph2f1;ph3f9");
        for (int day = 1; day <= 3; day++) {
            is("11: one went", x.day(), 1);
            is("19: who LAPSED", x.log(0, 1), 14);
            is("19: CHAPELS", x.log(0, 0), 1);
            is("11: who went keeps his", x.walker(0, 1), 0);
            is("11: FAITH 0 at least", x.walker(1, 1), 0);
            is("11: 1, then 0", x.walker(2, 1), 0);
            is("11: one less", x.walker(3, 1), 9 - day);
        }
        x.moves(1, 0);
        is("11: two went", x.day(), 2);
        is("19: those who did not", x.log(0, 1), 12);
        x.moves(2, 0);
        x.moves(3, 1);
        is("11: all went", x.day(), 4);
        is("19: nobody", x.log(0, 1), 0);
        is("11: FAITH stays", x.walker(3, 1), 5);
    }

    // COINS one more for each who went (999 at most)
    private static void coinsOfADay() {
        for (int before = 993; before <= 999; before++) {
            WallChapels x = coins(before, "e;p;p;p;p");
            is("11: four went", x.day(), 4);
            is("11: COINS behind " + before, x.count(8), Math.min(999, before + 4));
            is("19: COINS then", x.log(0, 2), Math.min(999, before + 4));
        }
        WallChapels y = Kit.town("sk0;e;ea2b3w1;p;ph2;p");
        is("11: two of three", y.day(), 2);
        is("11: COINS", y.count(8), 2);
    }

    // the MARK there (0 at first; 999 at most)
    private static void marksAtMost() {
        WallChapels x = Kit.town("e;p;p;p;p");
        Kit.hold(x, "y:0-y");
        for (int day = 1; day <= 249; day++) {
            x.day();
        }
        is("11: 996", x.corner(0, 0), 996);
        is("26: 999 is ahead", x.worn(0, 999), 1);
        is("38: 996 of 996", x.shares(0, 999), 999);
        is("11: four go", x.day(), 4);
        is("11: 999", x.corner(0, 0), 999);
        is("26: 999 is there", x.worn(0, 999), 0);
        is("11: four go still", x.day(), 4);
        is("11: 999 stays", x.corner(0, 0), 999);
        x.law(NONE);
        is("32: half of 999", x.draws(0, 0), 4 + 499);
        Kit.hold(x, "y:w-950");
        is("32: a MARK of 999", x.draws(0, 0), 49);
    }

    // A DAY (0 at first; 999 at most: none goes by then), YEARS: NONE beyond 999
    private static void daysAtMost() {
        WallChapels x = Kit.town("e;p");
        x.council(0);
        is("7: DAY 0", x.count(7), 0);
        for (int i = 1; i <= 32; i++) {
            is("17: thirty", x.years(30, i), 30 * i);
        }
        is("17: 969", x.years(9, 1), 969);
        WallChapels y = Kit.town("e;p");
        y.council(0);
        for (int i = 1; i <= 32; i++) {
            y.years(30, i);
        }
        y.years(10, 1);
        is("17: 970 and 30 is beyond", y.years(30, 1), NONE);
        is("17: 970", y.count(7), 970);
        is("17: 970 and 29", y.years(29, 1), 999);
        is("17: 969 and 30", x.years(30, 1), 999);
        is("17: 999 and 1", x.years(1, 1), NONE);
        is("11: none goes by", x.day(), NONE);
        is("43: 999", x.count(7), 999);
        is("41: 999", x.image(), 999);
        x.undo();
        is("11: 999 again", x.day() == NONE ? 1 : 0, 0);
        is("43: 999 again", x.count(7), 999);
        is("42: 999", x.back(), 999);
        is("11: none goes by behind BACK", x.day(), NONE);
        is("12: but walls are built", x.wall(0), 1);
        is("25: and DAYS go on ahead", x.soon(0), 1);
    }

    // too few COINS: 3 for a WALL, 2 for a LAMP, 1 for a move, 4 for FAITH
    private static void prices() {
        for (int k = 0; k <= 9; k++) {
            WallChapels built = coins(k, "e;p");
            is("12: BUILT for " + k, built.wall(0), k < 3 ? NONE : 1);
            is("12: it stands", built.street(0, 3), k < 3 ? 0 : 1);
            paid(built, k, 3);
            WallChapels through = coins(k, "ew1;p");
            is("12: KNOCKED through for " + k, through.wall(0), k < 3 ? NONE : 0);
            is("12: it is open", through.street(0, 3), k < 3 ? 1 : 0);
            paid(through, k, 3);
            WallChapels lamp = coins(k, "e;p");
            is("13: a LAMP for " + k, lamp.lamp(3), k < 2 ? NONE : 1);
            is("13: it hangs", lamp.corner(3, 1), k < 2 ? 0 : 1);
            paid(lamp, k, 2);
            WallChapels move = coins(k, "e;ph1");
            is("14: a move for " + k, move.moves(0, 2), k < 1 ? NONE : 1);
            is("14: HOME", move.walker(0, 0), k < 1 ? 1 : 2);
            paid(move, k, 1);
            WallChapels faith = coins(k, "e;p");
            is("15: FAITH for " + k, faith.preach(0), k < 4 ? NONE : 5);
            is("15: how much", faith.walker(0, 1), k < 4 ? 4 : 5);
            paid(faith, k, 4);
        }
    }

    private static void paid(WallChapels x, int had, int price) {
        is("COINS of " + had, x.count(8), had < price ? had : had - price);
        is("ACTS for " + had, x.count(12), had < price ? 0 : 1);
        is("undone", x.undo(), had < price ? NONE : 0);
        is("COINS again", x.count(8), had);
    }

    // A LAMP (3 at most)
    private static void lampsAtMost() {
        WallChapels x = Kit.town(STAR);
        for (int c = 0; c < 8; c++) {
            for (int lamps = 1; lamps <= 3; lamps++) {
                is("13: LAMPS at " + c, x.lamp(c), lamps);
                is("6: LAMPS at " + c, x.corner(c, 1), lamps);
            }
            is("13: a fourth", x.lamp(c), NONE);
            is("6: three", x.corner(c, 1), 3);
        }
        is("13: COINS", x.count(8), 99 - 48);
        is("13: ACTS", x.count(12), 24);
        x.undo();
        is("13: a third again", x.lamp(7), 3);
    }

    // MOVES: HOME that was; NONE: it is so
    private static void moveBackAndForth() {
        WallChapels x = Kit.town(STAR);
        is("14: it is so", x.moves(1, 7), NONE);
        for (int c = 0; c < 7; c++) {
            is("14: HOME that was", x.moves(1, c), c == 0 ? 7 : c - 1);
            is("14: it is so now", x.moves(1, c), NONE);
            is("8: HOME", x.walker(1, 0), c);
        }
        is("8: the other's", x.walker(0, 0), 7);
        is("14: COINS", x.count(8), 92);
    }

    // FAITH is one more (9 at most)
    private static void faithAtMost() {
        WallChapels x = Kit.town("sk99;e;pf0;p;p;pf9");
        for (int f = 1; f <= 9; f++) {
            is("15: FAITH", x.preach(0), f);
        }
        is("15: nine", x.preach(0), NONE);
        is("15: nine at first", x.preach(3), NONE);
        is("15: COINS", x.count(8), 99 - 36);
        is("15: another's", x.walker(1, 1), 4);
    }

    // COINS are given (1 .. 50; 999 at most)
    private static void gifts() {
        for (int n = -2; n <= 53; n++) {
            WallChapels x = Kit.town("e;p");
            boolean fits = n >= 1 && n <= 50;
            is("16: " + n, x.give(n), fits ? 20 + n : NONE);
            is("16: COINS of " + n, x.count(8), fits ? 20 + n : 20);
            is("16: ACTS of " + n, x.count(12), fits ? 1 : 0);
        }
        int[][] tries = {{949, 50, 999}, {950, 50, NONE}, {950, 49, 999}, {998, 1, 999}, {998, 2, NONE}, {999, 1, NONE}, {997, 1, 998}};
        for (int[] one : tries) {
            WallChapels x = coins(one[0], "e;p");
            is("16: " + one[1] + " to " + one[0], x.give(one[1]), one[2]);
            is("16: COINS then", x.count(8), one[2] == NONE ? one[0] : one[2]);
        }
    }

    // LOG: the latest 60
    private static void logIsFull() {
        WallChapels x = Kit.town("sk0;e;p");
        is("19: empty", x.log(0, 0), NONE);
        for (int day = 1; day <= 130; day++) {
            x.day();
            int length = Math.min(60, day);
            is("43: LOG of " + day, x.count(11), length);
            is("19: the oldest of " + day, x.log(length - 1, 2), day - length + 1);
            if (day < 3 || day > 58 && day < 62 || day > 128) {
                is("19: none older than of " + day, x.log(length, 2), NONE);
                is("19: the latest of " + day, x.log(0, 2), day);
            }
        }
        for (int i = 39; i >= 0; i--) {
            is("18: undone", x.undo(), i);
        }
        is("19: as it was", x.log(59, 2), 31);
        is("19: the latest as it was", x.log(0, 2), 90);
        is("43: as long as it was", x.count(11), 60);
    }

    // LOG: CHAPELS that somebody went to, who LAPSED, COINS then: of that DAY alone
    private static void logOfOneDayAlone() {
        WallChapels x = Kit.town("sn6k99;e;ea2b3w1;ea4b5w1;p;ph2;ph4");
        int[][] due = {{1, 6}, {5, 4}, {21, 0}, {1, 6}};
        x.day();
        x.wall(1);
        x.day();
        x.wall(2);
        x.soon(0);
        x.day();
        x.wall(1);
        x.wall(2);
        x.worn(0, 900);
        x.day();
        int coins = 99;
        int[] prices = {0, 3, 3, 6};
        for (int day = 0; day < 4; day++) {
            coins += Integer.bitCount(due[day][0]) - prices[day];
            is("19: CHAPELS of day " + day, x.log(3 - day, 0), due[day][0]);
            is("19: who LAPSED on day " + day, x.log(3 - day, 1), due[day][1]);
            is("19: COINS of day " + day, x.log(3 - day, 2), coins);
        }
    }

    // the latest 40 can be UNDONE one by one
    private static void actsAreFull() {
        for (int acts = 0; acts <= 43; acts++) {
            WallChapels x = Kit.town("e;p");
            for (int i = 0; i < acts; i++) {
                is("16: a COIN", x.give(1), 21 + i);
                is("43: ACTS", x.count(12), Math.min(40, i + 1));
            }
            int held = Math.min(40, acts);
            for (int left = held - 1; left >= 0; left--) {
                is("18: how many still", x.undo(), left);
                is("18: COINS", x.count(8), 20 + acts - held + left);
            }
            is("18: none", x.undo(), NONE);
            is("18: COINS stay", x.count(8), 20 + acts - held);
        }
        // a full row, half undone, filled again
        WallChapels y = Kit.town("e;p");
        for (int i = 0; i < 60; i++) {
            y.give(1);
        }
        for (int i = 0; i < 25; i++) {
            y.undo();
        }
        for (int i = 0; i < 30; i++) {
            y.give(2);
        }
        is("43: forty", y.count(12), 40);
        is("8: COINS", y.count(8), 20 + 35 + 60);
        for (int i = 0; i < 30; i++) {
            y.undo();
        }
        is("18: the second row is undone", y.count(8), 55);
        for (int i = 9; i >= 0; i--) {
            is("18: ten of the first", y.undo(), i);
        }
        is("18: as far as it goes", y.count(8), 45);
        is("18: no more", y.undo(), NONE);
    }

    // All these are ACTS; what is none: LAW, COUNCIL, SEEN, texts, an IMAGE
    private static void eachActIsOne() {
        WallChapels x = Kit.town(STAR);
        int acts = 0;
        x.day();
        is("18: a DAY", x.count(12), ++acts);
        x.wall(0);
        is("18: a WALL", x.count(12), ++acts);
        x.wall(0);
        is("18: KNOCKED through", x.count(12), ++acts);
        x.lamp(0);
        is("18: a LAMP", x.count(12), ++acts);
        x.moves(0, 0);
        is("18: MOVES", x.count(12), ++acts);
        x.preach(0);
        is("18: FAITH", x.count(12), ++acts);
        x.give(1);
        is("18: COINS", x.count(12), ++acts);
        x.years(3, 7);
        acts += 3;
        is("18: YEARS, each DAY", x.count(12), acts);
        Kit.hold(x, "y:1");
        Kit.told(x, 2, "0");
        x.council(3);
        x.seen(0, true);
        x.image();
        is("18: none of these", x.count(12), acts);
        x.undo();
        is("18: nor undone: LAW", x.count(6), 0);
        is("18: nor undone: COUNCIL", x.count(9), 3);
        is("18: nor undone: SEEN", x.count(10), 1);
        is("18: nor undone: WALK", x.count(4), 1);
        is("18: a DAY of the YEARS", x.count(7), 3);
        is("18: its LOG", x.count(11), 3);
        Kit.told(x, 0, "e;p");
        is("18: none of another TOWN", x.undo(), NONE);
    }

    // ---- paragraph 3, promises 20 to 40

    private static void walked(WallChapels x, String walk, int behind, int yards, int chapels) {
        int number = Kit.told(x, 2, walk);
        is("21: behind how many of " + walk, x.check(number, 0), behind);
        is("21: YARDS of " + walk, x.check(number, 1), yards);
        is("21: CHAPELS of " + walk, x.check(number, 2), chapels);
    }

    // NONE: all can be; a first CORNER that there is not: 0, 0, 0
    private static void walks() {
        WallChapels x = Kit.town("sn5;ea0b1y3;ea1b2y4;ea2b3y5w1;p");
        walked(x, "0", NONE, 0, 1);
        walked(x, "1", NONE, 0, 0);
        walked(x, "010121", NONE, 3 + 3 + 3 + 4 + 4, 5);
        walked(x, "0123", 3, 7, 5);
        WallChapels y = Kit.town("sn5;ea0b1y3;ea1b2y4;ea2b3y5w1;p");
        walked(y, "00", 1, 0, 1);
        walked(y, "5", 0, 0, 0);
        walked(y, "70", 0, 0, 0);
        walked(y, "0150", 2, 3, 1);
        WallChapels z = Kit.town("sn5;ea0b1y3;ea1b2y4;ea2b3y5w1;p");
        walked(z, "02", 1, 0, 1);
        walked(z, "0101010101010101", NONE, 45, 1);
        walked(z, "0101010101010102", 15, 42, 1);
        walked(z, "44", 1, 0, 0);
        z.wall(2);
        is("21: as it is now", z.check(2, 2), 1);
        is("20: a walk stays", z.walk(2, 15), 2);
        Kit.told(z, 0, "e y9;p");
        is("21: in another TOWN", z.check(1, 1), 135);
        is("21: its CHAPELS", z.check(1, 2), 3);
    }

    // FAR, WAY: of several with the fewest CORNERS, then the least row
    private static void ways() {
        WallChapels x = Kit.town("sn8;ea0b1;ea0b2;ea0b3;ea3b4w1;p");
        is("23: through 0", x.way(1, 2), 102);
        is("23: from 0", x.way(0, 2), 2);
        is("23: to 0", x.way(3, 0), 30);
        for (int c = 0; c < 8; c++) {
            is("23: to itself", x.way(c, c), c);
            is("22: to itself", x.far(c, c), 0);
        }
        is("23: no way", x.way(3, 4), NONE);
        is("22: no way", x.far(3, 4), NONE);
        is("22: no way back", x.far(4, 3), NONE);
        // fewer yards by more corners; as many by fewer corners
        WallChapels y = Kit.town("sn8;ea0b7y8;ea0b1y1;ea1b2y1;ea2b3y1;ea3b4y1;ea4b5y1;ea5b6y1;ea6b7y1;p");
        is("22: seven of one", y.far(0, 7), 7);
        is("23: all corners", y.way(7, 0), 76543210);
        WallChapels z = Kit.town("sn8;ea0b7y7;ea0b1y1;ea1b2y1;ea2b3y1;ea3b4y1;ea4b5y1;ea5b6y1;ea6b7y1;p");
        is("23: two corners for as many YARDS", z.way(7, 0), 70);
        is("23: back", z.way(0, 7), 7);
        // as many yards and corners: the least row, at the first corner that differs
        WallChapels w = Kit.town("sn6;ea0b4y2;ea4b1y2;ea1b5y2;ea0b2y2;ea2b3y2;ea3b5y2;p");
        is("23: 0235 and 0415", w.way(0, 5), 235);
        is("23: 5140 and 5320", w.way(5, 0), 5140);
        is("22: of both", w.far(0, 5), 6);
        // 0 is one yard and no street farther off than 1 is, but no street leads there
        WallChapels apart = Kit.town("sn5;ea1b3y1;ea3b4y1;ea0b4y3;p");
        is("23: not by 0", apart.way(1, 4), 134);
        is("23: to 0", apart.way(1, 0), 1340);
        WallChapels most = Kit.town("sn8;ea0b1y40;ea1b2y40;ea2b3y40;ea3b4y40;ea4b5y40;ea5b6y40;ea6b7y40;p");
        is("22: the farthest there is", most.far(7, 0), 280);
        is("22: its WAY", most.way(0, 7), 1234567);
    }

    // FEAST: NONE: no way to one; there is no CHAPEL: 0, NONE
    private static void feasts() {
        WallChapels none = Kit.town("sn3;ea0b1;ea1b2;ea2b0;p");
        for (int c = 0; c < 3; c++) {
            is("24: no chapel", none.feast(c, 0), 0);
            is("24: its row", none.feast(c, 1), NONE);
        }
        WallChapels one = Kit.town("sn5;ea0b1;ea1b2;ea2b0;ea2b3y9;ew1;p");
        is("24: at the only one", one.feast(3, 0), 0);
        is("24: its row", one.feast(3, 1), 3);
        is("24: to the only one", one.feast(0, 0), 14);
        is("24: to it, its row", one.feast(0, 1), 3);
        is("24: no way to it", one.feast(4, 0), NONE);
        is("24: no way to it, its row", one.feast(4, 1), NONE);
        WallChapels zero = Kit.town("e;p");
        is("24: 0 comes first", zero.feast(0, 1), 1);
        is("24: 1 comes first", zero.feast(1, 1), 10);
        is("24: from 0", zero.feast(0, 0), 5);
        WallChapels alone = Kit.town("sn4;ea0b1;ea1b2;ea2b3;ea3b1;p");
        is("24: 0 is the only one", alone.feast(2, 1), 0);
        is("24: and at it", alone.feast(0, 1), 0);
        WallChapels two = Kit.town("e;ea2b3;p");
        is("24: a way to two of four", two.feast(0, 0), NONE);
        is("24: a way to two of four, the row", two.feast(3, 1), NONE);
        WallChapels star = Kit.town(STAR);
        is("24: to seven", star.feast(7, 0), 2 * 28 - 7);
        is("24: the least row", star.feast(7, 1), 123456);
        is("24: from one of them", star.feast(6, 0), 7 + 2 * (28 - 7 - 6) + 6);
        is("24: its row", star.feast(6, 1), 6012345);
        // the next chapel is chosen from where one stands, not from where one began
        WallChapels row = Kit.town("sn5;ea2b4y9;ea4b1y1;ea1b0y3;ea1b3y8;p");
        is("24: 4 to 0, 11 to 3, 18 to 2", row.feast(4, 0), 33);
        is("24: not 23, nor 203", row.feast(4, 1), 32);
        is("24: from 1 the same", row.feast(1, 1), 32);
        is("24: from a chapel", row.feast(3, 1), 302);
    }

    // SOON: in how many DAYS (1 .. 60); WORN: in how many DAYS (0 .. 60)
    private static void soonAndWorn() {
        WallChapels x = Kit.town("sn4;e;pf0;ph2f0;ph3f9");
        is("25: never", x.soon(0), NONE);
        is("25: at once, without FAITH", x.soon(1), 1);
        is("25: at once", x.soon(2), 1);
        for (int walker : new int[] {3, 4, 31, 32, 33, 34, 64, -1, -31, -32, Integer.MIN_VALUE}) {
            is("25: no such WALKER " + walker, x.soon(walker), NONE);
        }
        for (int day = 0; day <= 3; day++) {
            for (int v = 1; v <= 65; v++) {
                is("26: " + v + " on day " + day, x.worn(0, v), v <= day ? 0 : v - day <= 60 ? v - day : NONE);
            }
            is("26: nobody goes there", x.worn(2, 1), NONE);
            is("25: nothing has changed", x.count(7), day);
            is("25: nobody's FAITH", x.walker(2, 1), 9 - day);
            x.day();
        }
        WallChapels y = Kit.town("e;p;p;p");
        is("26: by threes", y.worn(0, 4), 2);
        is("26: 180", y.worn(0, 180), 60);
        is("26: 181", y.worn(0, 181), NONE);
    }

    // SEEN (10 at most)
    private static void seenIsFull() {
        WallChapels x = Kit.town("e;p");
        for (int i = 1; i <= 10; i++) {
            is("27: SEEN", x.seen(i % 4, i % 4 < 2), i);
            is("43: SEEN", x.count(10), i);
        }
        is("28: all is so", x.knocked(NONE), 1);
        is("27: an eleventh", x.seen(0, false), NONE);
        is("28: it is not there", x.knocked(NONE), 1);
        is("43: ten", x.count(10), 10);
        Kit.told(x, 0, "e;p");
        is("5: none of another TOWN", x.count(10), 0);
        is("27: a first again", x.seen(1, false), 1);
        is("28: nothing fits", x.knocked(NONE), 0);
    }

    // KNOCKED: one by which all SEEN is so, and 99, if it is so as now
    private static void knockedByWhatWasSeen() {
        String town = "sn6;ea0b1;ea1b2w1;ea2b3w1;ea3b4w1;ea4b5w1;p";
        WallChapels x = Kit.town(town);
        int[] all = {1, 2, 3, 4, 99};
        is("28: all", x.knocked(NONE), 5);
        for (int i = 0; i < 5; i++) {
            is("28: rising", x.knocked(i), all[i]);
        }
        is("28: beyond", x.knocked(5), NONE);
        x.seen(0, true);
        is("28: 0 is a chapel by all", x.knocked(NONE), 5);
        x.seen(3, true);
        is("28: two make 3 one", x.knocked(NONE), 2);
        is("28: the first", x.knocked(0), 2);
        is("28: the second", x.knocked(1), 3);
        is("28: not as now", x.knocked(2), NONE);
        x.seen(4, false);
        is("28: one of them", x.knocked(NONE), 1);
        is("28: it", x.knocked(0), 2);
        x.seen(4, true);
        is("28: both can't be", x.knocked(NONE), 0);
        is("28: no first", x.knocked(0), NONE);
        is("29: nothing fits", x.ask(), NONE);
        WallChapels y = Kit.town(town);
        y.seen(1, true);
        y.seen(3, false);
        is("28: 1, 2 and 3 change it", y.knocked(NONE), 2);
        is("28: 4", y.knocked(0), 4);
        is("28: as now", y.knocked(1), 99);
        // all else as now: a wall built since is one that may be knocked through
        y.wall(0);
        is("28: by none of them 1 is a chapel but by 0 and 1", y.knocked(NONE), 2);
        is("28: 0", y.knocked(0), 0);
        is("28: 1", y.knocked(1), 1);
        WallChapels none = Kit.town("e;p");
        is("28: no WALL", none.knocked(NONE), 1);
        is("28: as now", none.knocked(0), 99);
        none.seen(0, false);
        is("28: nothing", none.knocked(NONE), 0);
    }

    // ASK: least apart in number (of several the lowest)
    private static void askOfSeveral() {
        WallChapels x = Kit.town("e;p");
        is("29: all alike", x.ask(), 0);
        // 0, 1 chapels now and by 1; 2, 3 by 1 alone
        WallChapels y = Kit.town("e;ea2b3w1;p");
        is("29: the lowest of two", y.ask(), 2);
        // chapels now 4, 5; by each street: 0 1; 0 2; 0 3
        WallChapels z = Kit.town("sn6;ea4b5;ea0b1w1;ea0b2w1;ea0b3w1;p");
        is("29: three to one is nearer than four to none", z.ask(), 0);
        z.seen(0, true);
        is("29: one to two", z.ask(), 1);
        z.seen(1, false);
        is("29: one to one", z.ask(), 2);
        z.seen(2, false);
        is("29: one alone", z.ask(), 0);
        z.seen(3, false);
        is("29: nothing fits", z.ask(), NONE);
        // two to two of four: 0 1 by one, 0 2 by the other, 1 2 both of 3 and 4
        WallChapels w = Kit.town("sn5;ea3b0w1;ea3b1w1;ea3b2w1;ea4b2w1;p");
        is("29: by 3 three, by 2 two of five", w.ask(), 2);
    }

    // WALLS: the fewest; of several the least; 0: none; NONE: by none
    private static void fewestWalls() {
        WallChapels x = Kit.town("sn4;ea0b1;ea2b3;ea1b2;p");
        is("30: one of more worth than two of less", x.walls(6), 4);
        is("30: the least of two", x.walls(2), 1);
        is("30: the other's least", x.walls(4), 2);
        is("30: none", x.walls(9), 0);
        is("30: all four", x.walls(15), 4);
        is("30: 0 and 1", x.walls(3), 4);
        WallChapels star = Kit.town(STAR);
        is("30: six of seven", star.walls(128), 63);
        is("30: with the first", star.walls(129), 126);
        is("30: with two", star.walls(131), NONE);
        is("30: all seven", star.walls(127), 0);
        is("30: all eight", star.walls(255), NONE);
        WallChapels shut = Kit.town("e;ea1b2w1;p");
        is("30: nothing open there", shut.walls(4), NONE);
        is("30: nothing at all there", shut.walls(8), NONE);
        is("30: a WALL is no more to be built", shut.walls(2), 0);
    }

    // PARTED: the fewest; of several the least; 0: they are
    private static void fewestParting() {
        WallChapels x = Kit.town("sn4;ea0b2;ea0b2;ea2b1;p");
        is("31: one of more worth than two of less", x.parted(0, 1), 4);
        is("31: the other way", x.parted(1, 0), 4);
        is("31: two", x.parted(0, 2), 3);
        is("31: they are", x.parted(0, 3), 0);
        x.wall(1);
        is("31: of two the least", x.parted(0, 1), 1);
        x.wall(0);
        is("31: they are by now", x.parted(0, 1), 0);
        WallChapels y = Kit.town("sn4;ea0b1;ea1b3;ea0b2;ea2b3;ea0b3;p");
        is("31: one on each way, the least", y.parted(0, 3), 21);
        is("31: both of 1", y.parted(1, 2), 3);
        WallChapels row = Kit.town("sn8;ea6b7;ea5b6;ea4b5;ea3b4;ea2b3;ea1b2;ea0b1;p");
        is("31: of seven the least", row.parted(0, 7), 1);
        is("31: of one", row.parted(0, 1), 64);
    }

    // GAME: -20 for none, less 4, if both go there
    private static void games() {
        WallChapels x = Kit.town("sn5;e;ea2b3;pf3;pf5;ph2f9");
        for (int a = 0; a <= 7; a++) {
            for (int b = 0; b <= 7; b++) {
                int first = (a == 0 ? 3 : a == 1 ? 2 : -20) - (a == b ? 4 : 0);
                int second = (b == 0 ? 5 : b == 1 ? 4 : -20) - (a == b ? 4 : 0);
                is("35: the first at " + a + ", " + b, x.game(0, 1, a, b, 0), first);
                is("35: the second at " + a + ", " + b, x.game(0, 1, a, b, 1), second);
            }
        }
        is("35: another order", x.game(2, 0, 2, 0, 0), 9);
        is("35: another order, the second", x.game(2, 0, 2, 0, 1), 3);
        Kit.hold(x, "y:0-99");
        is("35: less than none", x.game(0, 1, 0, 1, 0), -99);
        is("35: less than none, both", x.game(0, 1, 1, 1, 1), -103);
        is("35: none", x.game(0, 1, 2, 3, 0), -20);
    }

    // RESTS: neither has more by another of his own
    private static void rests() {
        // as much counts as no more
        WallChapels x = Kit.town("sn3;ea0b1y1;ea1b2y1;ph1;ph1");
        Kit.hold(x, "y:y");
        is("36: each at his own", x.rests(0, 1, NONE), 2);
        is("36: the first", x.rests(0, 1, 0), 2);
        is("36: the second", x.rests(0, 1, 1), 20);
        is("36: no third", x.rests(0, 1, 2), NONE);
        // both at one: 50 less 4 is more than 1
        Kit.hold(x, "y:w=0&l=1?50;y:1");
        x.lamp(2);
        is("36: both at one", x.rests(0, 1, NONE), 1);
        is("36: it", x.rests(0, 1, 0), 22);
        // 5 less 4 is as much as 1
        Kit.hold(x, "y:l=1?5;y:1");
        is("36: as much is no more", x.rests(0, 1, NONE), 3);
        int[] due = {2, 20, 22};
        for (int i = 0; i < 3; i++) {
            is("36: rising", x.rests(0, 1, i), due[i]);
        }
        WallChapels y = Kit.town("ew1;p;p");
        is("36: all apart", y.rests(1, 0, NONE), 12);
        is("36: the last", y.rests(1, 0, 11), 32);
    }

    // ODDS: of the part that is left chance 100ths, cut, go on
    private static void oddsCut() {
        for (int chapels = 0; chapels <= 7; chapels++) {
            StringBuilder b = new StringBuilder("sn8;ph7");
            for (int c = 0; c < 7; c++) {
                // Two streets to the others make them none.
                b.append(";ea7b").append(c).append(c < chapels ? "" : "w1");
            }
            WallChapels x = Kit.town(b.append(";ea7b0w1").toString());
            int there = chapels == 1 ? 2 : chapels;
            for (int chance = 0; chance <= 100; chance++) {
                long left = 1000000000L;
                for (int c = 0; c < there; c++) {
                    left = left * chance / 100;
                }
                is("37: " + chance + " of " + there, x.odds(0, chance), 1000000000L - left);
            }
        }
        is("37: a chapel without a way", Kit.town("ea2b3;p").odds(0, 0), 0);
    }

    // SHARES: c times its by all, cut (none: 0)
    private static void sharesCut() {
        WallChapels x = Kit.town("e;p");
        is("38: none", x.shares(0, 999), 0);
        x.day();
        is("38: one of one", x.shares(0, 7), 7);
        is("38: none of one", x.shares(1, 999), 0);
        WallChapels y = Kit.town("sn6;e;ea2b3;p;p;ph2");
        y.day();
        for (int c = 0; c <= 999; c += 37) {
            is("38: two of three", y.shares(0, c), 2 * c / 3);
            is("38: one of three", y.shares(2, c), c / 3);
            is("38: none of three", y.shares(1, c), 0);
        }
        is("38: two of three of 999", y.shares(0, 999), 666);
    }

    private static void all(String town, int... due) {
        WallChapels x = Kit.town(town);
        for (int what = 0; what < 12; what++) {
            is("39: all(" + what + ") of " + town, x.all(what), due[what]);
        }
    }

    // nothing open: no chapel, no bridge, each corner a part
    private static void nothingOpen() {
        all("ew1;p", 0, 0, 4, 0, 0, 0, 0, 0, 0, 0, 0, 0);
        all("sn8;ew1;ew1;p;p", 0, 0, 8, 0, 0, 0, 0, 0, 0, 0, 0, 0);
        all("sn2;e;p", 3, 1, 1, 0, 0, 0, 0, 0, 0, 0, 5, 3);
    }

    private static void allOpen() {
        StringBuilder b = new StringBuilder("sn2;p;p;p;pf9");
        for (int s = 0; s < 12; s++) {
            b.append(";ey40");
        }
        all(b.toString(), 0, 0, 1, 11, 0, 0, 0, 3, 0, 0, 480, 0);
    }

    // PARTS, RINGS, BRIDGES, wherever the corners and streets stand
    private static void parts() {
        all("sn8;ea6b7;ea5b6;ea4b5;ea3b4;ea2b3;ea1b2;ea0b1;p", 129, 127, 1, 0, 0, 0, 1, 0, 0, 3, 35, 129);
        all("sn8;ea1b2;ea1b2;ea2b3;p", 8, 4, 6, 1, 0, 0, 2, 0, 1, 0, 15, 8);
        all("sn4;ea0b2;ea1b3;p", 15, 3, 2, 0, 0, 0, 0, 0, 0, 0, 10, 15);
        all("sn6;ea5b0;ea3b1;ea4b2;p", 63, 7, 3, 0, 0, 0, 0, 0, 0, 0, 15, 63);
        all("sn4;ea3b2;ea2b1;ea1b3;ea0b1w1;p", 0, 0, 2, 1, 0, 0, 1, 0, 1, 0, 15, 0);
    }

    // of several the lowest, all
    private static void ofSeveralTheLowest() {
        WallChapels x = Kit.town("sn8k99;ea1b2;ea3b4;ea5b6;ph1f2;ph3f5;ph5f5;ph5f0");
        Kit.hold(x, "y:0-y");
        is("39: LONELIEST 0", x.all(5), 0);
        is("39: BUSIEST 1", x.all(6), 1);
        is("39: FAITHFUL 1", x.all(7), 1);
        is("39: REMOTE 1", x.all(8), 1);
        is("39: MIDDLE 0", x.all(9), 0);
        is("39: DEEPEST 0, without MARKS", x.all(4), 0);
        x.day();
        is("39: DEEPEST 5", x.all(4), 5);
        x.moves(3, 3);
        x.day();
        is("39: DEEPEST 3 as deep as 5", x.all(4), 3);
        x.moves(0, 7);
        is("39: DEEPEST stays", x.all(4), 3);
        x.preach(2);
        is("39: FAITHFUL 2", x.all(7), 2);
        x.preach(1);
        is("39: FAITHFUL 1 as much as 2", x.all(7), 1);
        WallChapels y = Kit.town("e;e;ea1b2;ea3b0;p");
        is("39: BUSIEST 0 of two", y.all(6), 0);
        is("39: LONELIEST 2 of two", y.all(5), 2);
        WallChapels z = Kit.town("ea3b2;ea3b2;ea0b1;p;pf5;pf5");
        is("39: BUSIEST 2", z.all(6), 2);
        is("39: LONELIEST 0", z.all(5), 0);
        is("39: FAITHFUL 1 of two", z.all(7), 1);
    }

    // REMOTE, MIDDLE: the one that is farthest from it, of those one can come to
    private static void farthest() {
        WallChapels x = Kit.town("sn3;ey1;p");
        is("39: MIDDLE, alone", x.all(9), 2);
        is("39: REMOTE, by one yard", x.all(8), 0);
        WallChapels y = Kit.town("sn5;ea0b1y3;ea1b2y4;ea2b3y2;ea3b4y9;p");
        is("39: MIDDLE of a row", y.all(9), 3);
        is("39: REMOTE of a row", y.all(8), 0);
        WallChapels z = Kit.town("sn6;ea0b1y3;ea2b3y9;ea4b5y10;p");
        is("39: REMOTE of parts", z.all(8), 4);
        is("39: MIDDLE of parts", z.all(9), 0);
        WallChapels w = Kit.town("sn4;ea2b1y9;ea2b0y8;ea2b3y7;p");
        is("39: MIDDLE of a star", w.all(9), 2);
        is("39: REMOTE of a star", w.all(8), 0);
        WallChapels v = Kit.town("sn4;ea3b1y9;ea3b0y7;ea3b2y8;p");
        is("39: REMOTE of another", v.all(8), 1);
    }

    // DARK: CHAPELS without a LAMP
    private static void dark() {
        WallChapels x = Kit.town(STAR);
        int dark = 127;
        is("39: DARK", x.all(11), dark);
        x.lamp(7);
        is("39: a LAMP where no CHAPEL is", x.all(11), dark);
        for (int c : new int[] {3, 0, 6, 1}) {
            x.lamp(c);
            x.lamp(c);
            dark &= ~(1 << c);
            is("39: DARK without " + c, x.all(11), dark);
        }
        x.undo();
        is("39: one LAMP of two", x.all(11), dark);
        x.undo();
        is("39: DARK again", x.all(11), dark | 2);
        x.wall(2);
        is("39: a CHAPEL less", x.all(11), (dark | 2) & ~4);
    }

    // AROUND a CORNER within v (0 .. 99) YARDS: CORNERS (it, too)
    private static void around() {
        WallChapels x = Kit.town(STAR);
        for (int v = 0; v <= 99; v++) {
            is("40: 7 within " + v, x.around(7, v), 128 | (1 << Math.min(7, v)) - 1);
            int due = 1;
            for (int c = 1; c < 7; c++) {
                due |= v >= c + 2 ? 1 << c : 0;
            }
            is("40: 0 within " + v, x.around(0, v), due | (v >= 1 ? 128 : 0));
        }
        WallChapels y = Kit.town("sn5;ea0b1y40;ea1b2y40;ea2b3y19;ea3b4y1;p");
        is("40: 99 YARDS", y.around(0, 99), 15);
        is("40: 98 YARDS", y.around(0, 98), 7);
        is("40: 80 YARDS", y.around(0, 80), 7);
        is("40: 79 YARDS", y.around(0, 79), 3);
    }

    // ---- paragraph 4, promises 17, 41, 42, 43

    private static final BigInteger ROUND = BigInteger.ONE.shiftLeft(64);
    private static final BigInteger TIMES = new BigInteger("6364136223846793005");
    private static final BigInteger AND = new BigInteger("1442695040888963407");

    /** The draws as the document tells them, by numbers that never go round by themselves. */
    private static final class Draws {
        private BigInteger x;

        Draws(long seed) {
            x = BigInteger.valueOf(seed).mod(ROUND);
        }

        int of(int j) {
            x = x.multiply(TIMES).add(AND).mod(ROUND);
            return x.shiftRight(33).mod(BigInteger.valueOf(j)).intValue();
        }
    }

    private static final String CITY = "sn7k50;ea0b1;ea1b2;ea2b3w1;ea3b4;ea4b5;ea5b6w1;ea6b0;ea2b5;ph0;ph3f9;ph6f0";

    private static void drawn(String town, int council, int n, long seed) {
        WallChapels x = Kit.town(town);
        int streets = x.count(1);
        int walkers = x.count(2);
        int[] wall = new int[streets];
        int[] home = new int[walkers];
        for (int s = 0; s < streets; s++) {
            wall[s] = x.street(s, 3);
        }
        for (int w = 0; w < walkers; w++) {
            home[w] = x.walker(w, 0);
        }
        x.council(council);
        Draws draws = new Draws(seed);
        for (int i = 0; i < n; i++) {
            if (draws.of(10) < council) {
                wall[draws.of(streets)] ^= 1;
            } else {
                int who = draws.of(walkers);
                home[who] = draws.of(x.count(0));
            }
        }
        String what = "17: YEARS " + n + " by " + seed + " and COUNCIL " + council + ": ";
        is(what + "the DAY", x.years(n, seed), n);
        for (int s = 0; s < streets; s++) {
            is(what + "WALL " + s, x.street(s, 3), wall[s]);
        }
        for (int w = 0; w < walkers; w++) {
            is(what + "HOME " + w, x.walker(w, 0), home[w]);
        }
        int went = 0;
        for (int c = 0; c < x.count(0); c++) {
            went += x.corner(c, 0);
        }
        is(what + "for nothing", x.count(8), (town.equals(CITY) ? 50 : 20) + went);
        is(what + "ACTS", x.count(12), n);
        is(what + "LOG", x.count(11), n);
    }

    // a draw of 10: below COUNCIL (0 .. 9)
    private static void yearsDrawn() {
        for (int council = 0; council <= 9; council++) {
            for (int seed = 0; seed < 12; seed++) {
                drawn(CITY, council, 1, seed * 1000003L);
                drawn(CITY, council, 2 + seed * 2, seed);
            }
            drawn(CITY, council, 30, council);
            drawn("e;p", council, 30, council);
        }
    }

    // ahead of each DAY: it is lived from the new HOME, behind the new WALL
    private static void yearsAheadOfEachDay() {
        for (int seed = 0; seed < 40; seed++) {
            WallChapels x = Kit.town("e;p");
            x.council(0);
            x.years(1, seed);
            int home = x.walker(0, 0);
            is("17: LAPSED at " + home, x.log(0, 1), home > 1 ? 1 : 0);
            is("17: FAITH at " + home, x.walker(0, 1), home > 1 ? 3 : 4);
            is("17: MARK at " + home, x.corner(home, 0), home > 1 ? 0 : 1);
            WallChapels y = Kit.town("sn2;e;p");
            y.council(9);
            y.years(1, seed);
            is("17: LAPSED behind a WALL", y.log(0, 1), y.street(0, 3));
            is("17: COINS behind a WALL", y.log(0, 2), 21 - y.street(0, 3));
        }
    }

    // 64 bits, going round; shifted right without sign
    private static void yearsGoRound() {
        long[] seeds = {0, 1, -1, 2, -2, Long.MAX_VALUE, Long.MIN_VALUE, Long.MAX_VALUE - 1, Long.MIN_VALUE + 1, Integer.MAX_VALUE,
            Integer.MIN_VALUE, 1L << 32, 1L << 33, -(1L << 33), 6364136223846793005L, -1442695040888963407L, 123456789012345678L};
        for (long seed : seeds) {
            drawn(CITY, 1, 30, seed);
            drawn(CITY, 5, 30, seed);
            drawn(CITY, 9, 7, seed);
            drawn(CITY, 0, 7, seed);
        }
    }

    // n (1 .. 30) DAYS; the DAY; by two calls x begins at the seed anew
    private static void yearsAtMost() {
        for (int n = -2; n <= 33; n++) {
            WallChapels x = Kit.town("e;p");
            boolean fits = n >= 1 && n <= 30;
            is("17: " + n, x.years(n, 9), fits ? n : NONE);
            is("17: DAY behind " + n, x.count(7), fits ? n : 0);
        }
        WallChapels x = Kit.town(CITY);
        x.council(0);
        x.years(1, 9);
        int home = x.walker(new Draws9().who, 0);
        is("17: the seed's first", home, new Draws9().where);
        x.moves(new Draws9().who, (home + 1) % 7);
        x.years(1, 9);
        is("17: the seed's first again", x.walker(new Draws9().who, 0), home);
        for (int i = 2; i >= 0; i--) {
            is("18: one by one", x.undo(), i);
        }
        is("18: as at first", x.count(7), 0);
    }

    /** The first move by the seed 9 without a council. */
    private static final class Draws9 {
        final int who;
        final int where;

        Draws9() {
            Draws draws = new Draws(9);
            draws.of(10);
            who = draws.of(3);
            where = draws.of(7);
        }
    }

    // An IMAGE (instead of the one ahead); BACK; NONE: no IMAGE of this TOWN
    private static void images() {
        WallChapels x = Kit.town(CITY);
        is("42: none", x.back(), NONE);
        is("41: at DAY 0", x.image(), 0);
        is("42: nothing since", x.back(), 0);
        x.years(5, 3);
        is("41: at DAY 5", x.image(), 5);
        x.years(5, 4);
        is("42: at DAY 5, not 0", x.back(), 5);
        is("42: again", x.back(), 5);
        Kit.tape(x, "e;");
        is("5: a FAULT", x.text(0), NONE);
        is("42: still of this TOWN", x.back(), 5);
        Kit.told(x, 0, CITY);
        is("42: another TOWN, though alike", x.back(), NONE);
        is("43: DAY 0", x.count(7), 0);
        is("41: of it", x.image(), 0);
        is("42: of it", x.back(), 0);
    }

    // the LOG: they are so again
    private static void imagesOfTheLog() {
        WallChapels x = Kit.town("sn6k99;e;ea2b3w1;ea4b5w1;p;ph2;ph4");
        x.day();
        x.wall(1);
        x.day();
        x.wall(2);
        x.day();
        x.image();
        for (int i = 0; i < 3; i++) {
            x.undo();
        }
        x.wall(0);
        for (int i = 0; i < 105; i++) {
            x.day();
        }
        is("42: back", x.back(), 3);
        int[][] due = {{21, 0, 99}, {5, 4, 99}, {1, 6, 100}};
        for (int i = 0; i < 3; i++) {
            for (int what = 0; what < 3; what++) {
                is("42: LOG " + i + ", " + what, x.log(i, what), due[i][what]);
            }
        }
        is("43: LOG", x.count(11), 3);
        is("19: no more", x.log(3, 0), NONE);
    }

    // BACK: no ACT can be UNDONE then; UNDONE ACTS leave the IMAGE
    private static void imagesAndUndo() {
        WallChapels x = Kit.town("sk50;e;p");
        x.give(1);
        x.give(2);
        x.image();
        is("43: an IMAGE leaves the ACTS", x.count(12), 2);
        x.undo();
        x.undo();
        is("8: COINS", x.count(8), 50);
        is("42: back", x.back(), 0);
        is("42: COINS", x.count(8), 53);
        is("18: none", x.undo(), NONE);
        is("43: none", x.count(12), 0);
        x.give(4);
        is("18: one that came since", x.undo(), 0);
        is("18: COINS", x.count(8), 53);
        is("18: no more", x.undo(), NONE);
        // the image is kept apart from what is now
        x.lamp(0);
        x.wall(0);
        x.moves(0, 3);
        x.preach(0);
        x.day();
        x.back();
        is("42: LAMPS", x.corner(0, 1), 0);
        is("42: WALLS", x.street(0, 3), 0);
        is("42: HOMES", x.walker(0, 0), 0);
        is("42: FAITH", x.walker(0, 1), 4);
        is("42: DAY", x.count(7), 0);
        x.day();
        x.back();
        is("42: MARKS", x.corner(0, 0), 0);
        x.seen(0, true);
        x.back();
        is("42: SEEN is not of it", x.count(10), 1);
    }

    // MARKS, LAMPS, HOMES, FAITH of each corner and walker are UNDONE and kept by an IMAGE, up to the last
    private static void eachCornerAndWalkerAgain() {
        String town = "sn8k99;ea0b1;ea2b3;ea4b5;ea6b7;p;ph2;ph4;ph6";
        for (int times = 0; times < 2; times++) {
            WallChapels x = Kit.town(town);
            x.image();
            for (int c = 0; c < 8; c++) {
                x.lamp(c);
            }
            for (int w = 0; w < 4; w++) {
                x.moves(w, 2 * w + 1);
                x.preach(w);
            }
            is("11: all went", x.day(), 4);
            for (int w = 0; w < 4; w++) {
                is("11: MARK at " + (2 * w + 1), x.corner(2 * w + 1, 0), 1);
            }
            if (times == 0) {
                is("42: back", x.back(), 0);
            }
            for (int i = 0; i < 17 && times == 1; i++) {
                is("18: one by one", x.undo(), 16 - i);
            }
            for (int c = 0; c < 8; c++) {
                is("MARK again at " + c, x.corner(c, 0), 0);
                is("LAMPS again at " + c, x.corner(c, 1), 0);
            }
            for (int w = 0; w < 4; w++) {
                is("HOME again of " + w, x.walker(w, 0), 2 * w);
                is("FAITH again of " + w, x.walker(w, 1), 4);
            }
            is("COINS again", x.count(8), 99);
        }
    }

    private static void countsOfATown() {
        WallChapels x = Kit.town(STAR);
        int[] due = {8, 7, 2, 0, 0, 0, NONE, 0, 99, 1, 0, 0, 0};
        for (int what = 0; what <= 12; what++) {
            is("43: count(" + what + ")", x.count(what), due[what]);
        }
        Kit.told(x, 0, "sn2k3;e;e;e;e;e;e;e;e;e;e;e;e;p;p;p;p");
        int[] full = {2, 12, 4, 0, 0, 0, NONE, 0, 3, 1, 0, 0, 0};
        for (int what = 0; what <= 12; what++) {
            is("43: count(" + what + ") of the fullest", x.count(what), full[what]);
        }
    }
}
