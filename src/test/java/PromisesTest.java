/** Each promise of the document by hand: ordinary inputs, the edges that it names, wrong inputs. */
public final class PromisesTest {
    private static final int NONE = WallChapels.NONE;
    private static final int HIDDEN = WallChapels.HIDDEN;
    private static final int MIN = Integer.MIN_VALUE;
    private static final int MAX = Integer.MAX_VALUE;

    /** 0 - 1 - 2 and 1 - 3 are open; 3 - 4 and 2 - 3 have walls; one lives at 0, one without faith at 3. */
    private static final String TOWN = "sn5k20;ea0b1y4;ea1b2y3;ea1b3y6;ea3b4y2w1;ea2b3y9w1;ph0f4;ph3f0";
    /** A ring of four corners, 0 - 1 - 2 - 3, with a tail 3 - 4 and two streets between 0 and 1. */
    private static final String RING = "sn5k99;ea0b1y4;ea0b1y2;ea1b2y3;ea2b3y3;ea3b0y5;ea3b4y7;p;ph2f9";

    public static void main(String[] args) {
        newObject();
        feed();
        end();
        faultOfTowns();
        faultOfLaws();
        faultOfWalks();
        text();
        corner();
        street();
        walker();
        law();
        worths();
        council();
        day();
        dayAtTheEnd();
        wall();
        lamp();
        moves();
        preach();
        give();
        years();
        undo();
        log();
        walk();
        check();
        far();
        way();
        feast();
        soon();
        worn();
        seen();
        knocked();
        ask();
        walls();
        parted();
        draws();
        goes();
        goers();
        game();
        rests();
        odds();
        shares();
        all();
        around();
        image();
        back();
        count();
        Kit.close();
    }

    private static void is(String what, long got, long due) {
        Kit.same(what, got, due);
    }

    private static void is(String what, boolean got, boolean due) {
        Kit.same(what, got, due);
    }

    private static void fault(int sort, String text, int due) {
        is("fault(" + sort + ") of '" + text + "'", Kit.faultOf(sort, text), due);
    }

    // 1
    private static void newObject() {
        WallChapels x = new WallChapels();
        for (int what = 0; what <= 12; what++) {
            is("1: count(" + what + ")", x.count(what), what == 6 ? NONE : what == 9 ? 1 : 0);
        }
        is("1: image", x.image(), NONE);
        is("1: back", x.back(), NONE);
        is("1: day", x.day(), NONE);
        is("1: give", x.give(1), NONE);
        is("1: years", x.years(1, 1), NONE);
        is("1: undo", x.undo(), NONE);
        is("1: all", x.all(2), NONE);
        is("1: knocked", x.knocked(NONE), NONE);
        is("1: ask", x.ask(), NONE);
        is("1: walls", x.walls(1), NONE);
        is("1: seen", x.seen(0, true), NONE);
    }

    // 2
    private static void feed() {
        WallChapels x = new WallChapels();
        is("2: highest first", x.feed('0' << 24 | '1' << 16 | '2' << 8 | '3', 0, '4', 0, '5' << 16), 6);
        is("2: as a walk", x.text(2), 0);
        for (int i = 0; i < 6; i++) {
            is("2: corner " + i, x.walk(0, i), i);
        }
        is("2: nothing", x.feed(0, 0, 0, 0, 0), 0);
        is("2: negative words", x.feed(-1, -1, 0x80000000, 0, 0), 9);
        x.end(0);
        for (int i = 1; i <= 12; i++) {
            is("2: twenty more", x.feed(-1, -1, -1, -1, -1), 20 * i);
        }
        is("2: full", x.feed(0, 0, 0, 0, 1), NONE);
        is("2: full stays", x.count(5), 240);
        is("2: nothing more", x.feed(0, 0, 0, 0, 0), 240);
        is("2: cut", x.end(239), true);
        is("2: two more", x.feed(1, 0, 0, 0, 1), NONE);
        is("2: not even one of two", x.count(5), 239);
        is("2: one more", x.feed(0, 0, 1, 0, 0), 240);
    }

    // 3
    private static void end() {
        WallChapels x = new WallChapels();
        is("3: empty", x.end(0), true);
        is("3: beyond", x.end(1), false);
        Kit.tape(x, "0123456");
        is("3: negative", x.end(-1), false);
        is("3: lowest", x.end(MIN), false);
        is("3: highest", x.end(MAX), false);
        is("3: one beyond", x.end(8), false);
        is("3: stays", x.count(5), 7);
        is("3: all", x.end(7), true);
        is("3: three", x.end(3), true);
        is("3: has three", x.count(5), 3);
        x.text(2);
        is("3: the first three", x.walk(0, NONE), 3);
        is("3: the last of them", x.walk(0, 2), 2);
    }

    // 4
    private static void faultOfTowns() {
        fault(-1, "", -2);
        fault(3, "0", -2);
        fault(MIN, "0", -2);
        fault(0, "", 0);
        fault(0, "   ", 3);
        fault(0, "e;p", NONE);
        fault(0, " e ; p ; s ", NONE);
        fault(0, "e", 1);
        fault(0, "p", 1);
        fault(0, "e;p;", 4);
        fault(0, "e;;p", 2);
        fault(0, "e;s;s;p", 4);
        fault(0, "sn2k0;e;p", NONE);
        fault(0, "k5;e;p", 0);
        fault(0, "e;p;q", 4);
        fault(0, "eh0;p", 1);
        fault(0, "pf4f4;e", 3);
        fault(0, "sn4n4;e;p", 3);
        fault(0, "sn;e;p", 2);
        fault(0, "sn", 2);
        // out of bounds at the last digit, even where another could have come
        fault(0, "sn1;e;p", 2);
        fault(0, "sn0", 2);
        fault(0, "sn02;e;p", NONE);
        fault(0, "sn09;e;p", 3);
        fault(0, "sn12;e;p", 3);
        fault(0, "sk99;e;p", NONE);
        fault(0, "sk00;e;p", NONE);
        fault(0, "ey40;p", NONE);
        fault(0, "ey41;p", 3);
        fault(0, "ey00;p", 3);
        fault(0, "ey01;p", NONE);
        fault(0, "ew1;p", NONE);
        fault(0, "ew0;p", NONE);
        fault(0, "ew02;p", 3);
        fault(0, "pf9;e", NONE);
        fault(0, "pf10;e", 3);
        fault(0, "ea8;p", 2);
        fault(0, "eb77;p", 3);
        // a third digit itself, whatever stands ahead of it
        fault(0, "sk100;e;p", 4);
        fault(0, "ey999;p", 4);
        fault(0, "ey001;p", 4);
        // no blanks within numbers
        fault(0, "ey 4 0;p", 5);
        fault(0, "ey 40 ;p", NONE);
        // corners that there are not, loops: the length
        fault(0, "ea1;p", 5);
        fault(0, "eb0;p ", 6);
        fault(0, "ea3b3;p", 7);
        fault(0, "eb4;p", 5);
        fault(0, "eb4;p;sn5", NONE);
        fault(0, "ph3;e;sn3", 9);
        fault(0, "ph3;e;sn4", NONE);
        fault(0, "ph7;e;sn8", NONE);
        fault(0, "eb7;p;sn2x", 9);
        fault(0, "e;e;e;e;e;e;e;e;e;e;e;e;p", NONE);
        fault(0, "e;e;e;e;e;e;e;e;e;e;e;e;e;p", 24);
        fault(0, "e;p;p;p;p", NONE);
        fault(0, "e;p;p;p;p;p", 10);
        fault(0, "e;p" + (char) 233, 3);
    }

    private static void faultOfLaws() {
        fault(1, "", 0);
        fault(1, "y", 1);
        fault(1, "y:", 2);
        fault(1, "y:;", 2);
        fault(1, "y:1;", 4);
        fault(1, "y:1;y:2", NONE);
        fault(1, "y:y+w-f*l/c+d", NONE);
        fault(1, " y : [ y ] = 1 ? 2 ", NONE);
        fault(1, "z:1", 0);
        fault(1, "y:9999", NONE);
        fault(1, "y:00000", 6);
        fault(1, "y:1 2", 4);
        fault(1, "y:-1", 2);
        fault(1, "y:1?2", 3);
        fault(1, "y:1=1", 5);
        fault(1, "y:1=1=1?2", 5);
        fault(1, "y:1=1&2?3", 7);
        fault(1, "y:1=1&2=2|!3=3?4", NONE);
        fault(1, "y:!1?2", 4);
        fault(1, "y:(1=1)?2", NONE);
        fault(1, "y:(1)=1?2", 4);
        fault(1, "y:(1=1", 6);
        fault(1, "y:(1=1]", 6);
        fault(1, "y:[1=1]", 4);
        fault(1, "y:[(1)]", 3);
        fault(1, "y:1+(2)", 4);
        fault(1, "y:1+!2", 4);
        fault(1, "y:!(1=1)&![2]=2?3", NONE);
        fault(1, "y:1=1?2;y:!", 11);
        fault(1, "y:[[[[[[1]]]]]]", NONE);
        fault(1, "y:[[[[[[[1]]]]]]]", 8);
        fault(1, "y:!(!([[1]]=1))?1", NONE);
        fault(1, "y:!(!([[[1]]]=1))?1", 8);
        fault(1, "y:[1]+[[[[[[1]]]]]]*[1]", NONE);
        fault(1, "y:!!!!!!y=1?1", NONE);
        fault(1, "y:!!!!!!!y=1?1", 8);
        fault(1, "y:y>", 4);
        fault(1, "y:1" + (char) 128, 3);
    }

    private static void faultOfWalks() {
        fault(2, "", 0);
        fault(2, "  ", 2);
        fault(2, "0", NONE);
        fault(2, " 0 7 ", NONE);
        fault(2, "0123456701234567", NONE);
        fault(2, "0123456701234567 ", NONE);
        fault(2, "0123456701234567 1", 17);
        fault(2, "08", 1);
        fault(2, "0,1", 1);
    }

    // 5
    private static void text() {
        WallChapels x = Kit.town(TOWN);
        is("5: the tape is empty", x.count(5), 0);
        is("5: no such sort", x.text(3), NONE);
        is("5: no such sort", x.text(-1), NONE);
        is("5: a fault", Kit.told(x, 0, "e"), NONE);
        is("5: a fault leaves the tape", x.count(5), 1);
        is("5: and the town", x.count(1), 5);
        for (int i = 0; i < 4; i++) {
            is("5: law " + i, Kit.told(x, 1, "y:" + i), i);
            is("5: walk " + i, Kit.told(x, 2, "" + i), i);
        }
        is("5: a fifth law", Kit.told(x, 1, "y:5"), NONE);
        is("5: a fifth law leaves the tape", x.count(5), 3);
        is("5: a fifth walk", Kit.told(x, 2, "5"), NONE);
        x.law(2);
        x.council(7);
        x.lamp(0);
        x.day();
        x.seen(0, true);
        x.image();
        is("5: another town", Kit.told(x, 0, "e;e;p;sk7"), 2);
        is("5: DAY 0", x.count(7), 0);
        is("5: COINS", x.count(8), 7);
        is("5: no LAMPS", x.corner(0, 1), 0);
        is("5: no MARKS", x.corner(0, 0), 0);
        is("5: SEEN is gone", x.count(10), 0);
        is("5: LOG is gone", x.count(11), 0);
        is("5: ACTS are gone", x.undo(), NONE);
        is("5: the IMAGE is gone", x.back(), NONE);
        is("5: LAWS stay", x.count(3), 4);
        is("5: which holds", x.count(6), 2);
        is("5: WALKS stay", x.walk(3, 0), 3);
        is("5: COUNCIL stays", x.count(9), 7);
    }

    // 6
    private static void corner() {
        WallChapels x = Kit.town(TOWN);
        is("6: open at 1", x.corner(1, 2), 3);
        is("6: open at 3", x.corner(3, 2), 1);
        is("6: open at 4", x.corner(4, 2), 0);
        x.day();
        x.lamp(0);
        x.lamp(0);
        is("6: MARK", x.corner(0, 0), 1);
        is("6: LAMPS", x.corner(0, 1), 2);
        is("6: MARK of another", x.corner(1, 0), 0);
        is("6: no such corner", x.corner(5, 0), NONE);
        is("6: no such corner", x.corner(-1, 0), NONE);
        is("6: no such corner", x.corner(MAX, 0), NONE);
        is("6: no such thing", x.corner(0, 3), NONE);
        is("6: no such thing", x.corner(0, -1), NONE);
        is("6: two streets between two", Kit.town(RING).corner(0, 2), 3);
    }

    // 7
    private static void street() {
        WallChapels x = Kit.town(TOWN);
        is("7: one end", x.street(4, 0), 2);
        is("7: other end", x.street(4, 1), 3);
        is("7: YARDS", x.street(4, 2), 9);
        is("7: WALL", x.street(4, 3), 1);
        is("7: no WALL", x.street(0, 3), 0);
        is("7: no such street", x.street(5, 0), NONE);
        is("7: no such street", x.street(-1, 0), NONE);
        is("7: no such thing", x.street(0, 4), NONE);
        is("7: no such thing", x.street(0, -1), NONE);
        WallChapels plain = Kit.town("e;p");
        is("7: a without", plain.street(0, 0), 0);
        is("7: b without", plain.street(0, 1), 1);
        is("7: y without", plain.street(0, 2), 5);
        is("7: w without", plain.street(0, 3), 0);
    }

    // 8
    private static void walker() {
        WallChapels x = Kit.town(TOWN);
        is("8: HOME", x.walker(1, 0), 3);
        is("8: FAITH", x.walker(1, 1), 0);
        x.moves(1, 2);
        x.preach(1);
        is("8: HOME now", x.walker(1, 0), 2);
        is("8: FAITH now", x.walker(1, 1), 1);
        Kit.walkerMissing(x, 2, 0);
        Kit.walkerMissing(x, -1, 0);
        Kit.walkerMissing(x, 0, 2);
        Kit.walkerMissing(x, 0, -1);
        Kit.walkerMissing(x, MIN, MAX);
        Kit.walkerMissing(new WallChapels(), 0, 0);
        WallChapels plain = Kit.town("e;p");
        is("8: HOME without", plain.walker(0, 0), 0);
        is("8: FAITH without", plain.walker(0, 1), 4);
    }

    // 9
    private static void law() {
        WallChapels x = new WallChapels();
        is("9: no such one", x.law(0), false);
        is("9: none", x.law(NONE), true);
        Kit.told(x, 1, "y:50");
        is("9: not at once", x.count(6), NONE);
        is("9: holds", x.law(0), true);
        is("9: which", x.count(6), 0);
        is("9: again", x.law(0), true);
        is("9: no such one", x.law(1), false);
        is("9: no such one", x.law(-2), false);
        is("9: stays", x.count(6), 0);
        Kit.told(x, 0, "e;p");
        is("9: draws by it", x.draws(0, 0), 50);
        is("9: none again", x.law(NONE), true);
        is("9: draws without", x.draws(0, 0), 4);
    }

    private static void worth(String law, int due) {
        WallChapels x = Kit.town("e y7;e a2b3;p f3;s k99");
        Kit.hold(x, law);
        is("worth of " + law, x.draws(0, 1), due);
    }

    /** Terms, paragraph 1: what a law is worth. */
    private static void worths() {
        worth("y:y", 7);
        worth("y:f", 3);
        worth("y:c", 4);
        worth("y:d+w+l", 0);
        worth("y:2+3*4", 14);
        worth("y:20-3-4", 13);
        worth("y:80/4/2", 10);
        worth("y:7/2*2", 6);
        worth("y:[2+3]*4", 20);
        worth("y:[3-10]/2", -3);
        worth("y:5/0", 0);
        worth("y:7-[1-1]/0", 7);
        worth("y:100", 99);
        worth("y:0-100", -99);
        worth("y:0-99", -99);
        // 9999 * 9999 is held at 1,000,000, so that a part of it shows
        worth("y:9999*9999/9999-50", 50);
        worth("y:0-9999*9999/9999+50", -50);
        worth("y:9999*9999+9999*9999-[9999*9999]", 0);
        worth("y:y=7?1;y:2", 1);
        worth("y:y=8?1;y:2", 2);
        worth("y:y<7?1", 0);
        worth("y:y<8?1", 1);
        worth("y:y>6?1;y:2", 1);
        worth("y:y>7?1;y:y>6?5;y:3", 5);
        worth("y:1=2&1=1|1=1?6", 6);
        worth("y:1=1|1=1&1=2?6", 6);
        worth("y:(1=1|1=1)&1=2?6;y:7", 7);
        worth("y:!1=2?6;y:7", 6);
        worth("y:!1=2&1=2?6;y:7", 7);
        worth("y:!(1=2&1=2)?6;y:7", 6);
        worth("y:!!1=1?6;y:7", 6);
        worth("y:[1]=1?6;y:7", 6);
        worth("y:4;y:5", 4);
        worth("y:1=2|1=2?6;y:7", 7);
        worth("y:1=2?6", 0);
        worth("y:!(1=1&2=2)?6;y:7", 7);
        worth("y:!(1=1|2=3)?6;y:7", 7);
        worth("y:!1=1|!(1=1)|1=1?6;y:7", 6);
    }

    // 10
    private static void council() {
        WallChapels x = new WallChapels();
        is("10: it is so", x.council(1), false);
        is("10: below", x.council(-1), false);
        is("10: above", x.council(10), false);
        is("10: stays", x.count(9), 1);
        is("10: 0", x.council(0), true);
        is("10: 9", x.council(9), true);
        is("10: 9 is so", x.council(9), false);
        is("10: is 9", x.count(9), 9);
        is("10: no act", x.count(12), 0);
    }

    // 11
    private static void day() {
        WallChapels x = Kit.town(TOWN);
        is("11: two went", x.day(), 2);
        is("11: MARK", x.corner(0, 0), 1);
        is("11: MARK", x.corner(3, 0), 1);
        is("11: DAY", x.count(7), 1);
        is("11: COINS", x.count(8), 22);
        x.wall(2);
        is("11: one lapses", x.day(), 1);
        is("11: FAITH stays at 0", x.walker(1, 1), 0);
        is("11: but he lapsed", x.log(0, 1), 2);
        // MARKS as they are then: the second sees the mark that the first has just made
        WallChapels y = Kit.town("s n4; e a0b1; e a1b2; e a1b3; p h1; p h1");
        Kit.hold(y, "y:0-w");
        is("11: both go", y.day(), 2);
        is("11: one to 0", y.corner(0, 0), 1);
        is("11: the other to 2", y.corner(2, 0), 1);
        is("11: no other mark", y.corner(3, 0), 0);
        // d is the DAY as it is before it passes
        WallChapels z = Kit.town("e;p");
        Kit.hold(z, "y:d");
        is("11: d at first", z.draws(0, 0), 0);
        z.day();
        is("11: d then", z.draws(0, 0), 1);
        WallChapels w = Kit.town("ew1;pf3;pf0");
        is("11: none went", w.day(), 0);
        is("11: FAITH one less", w.walker(0, 1), 2);
        is("11: FAITH not below 0", w.walker(1, 1), 0);
        is("11: both lapsed", w.log(0, 1), 3);
        is("11: nobody at a chapel", w.log(0, 0), 0);
        is("11: no COINS", w.count(8), 20);
    }

    private static void dayAtTheEnd() {
        WallChapels x = Kit.town("e;p;p;p;p");
        x.council(0);
        for (int i = 0; i < 33; i++) {
            x.years(30, i);
        }
        is("17: 990", x.count(7), 990);
        is("17: beyond 999", x.years(10, 1), NONE);
        is("17: COINS at most", x.count(8), 999);
        is("17: up to 998", x.years(8, 1), 998);
        is("11: the last", x.day() >= 0, true);
        is("11: DAY 999", x.count(7), 999);
        is("11: beyond 999", x.day(), NONE);
        is("17: beyond 999", x.years(1, 1), NONE);
        is("11: 999 stays", x.count(7), 999);
        is("11: LOG stays", x.count(11), 60);
        is("11: ACTS stay", x.count(12), 40);
        is("16: above 999", x.give(1), NONE);
        is("26: goes on behind 999", x.worn(0, 999) >= 0 || x.worn(1, 999) >= 0, true);
        is("18: an ACT less", x.undo(), 39);
        is("18: DAY 998", x.count(7), 998);
        // all four at one chapel: MARKS end at 999
        WallChapels y = Kit.town("e;p;p;p;p");
        Kit.hold(y, "y:0-y");
        for (int i = 0; i < 260; i++) {
            y.day();
        }
        is("11: MARK 999 at most", y.corner(0, 0), 999);
        is("11: still goes", y.day(), 4);
        is("38: all of it", y.shares(0, 999), 999);
        is("26: there now", y.worn(0, 999), 0);
        // a law's d goes on behind 999 in the days ahead: by d of 998 and 999 to 0, by 1000 to 2
        WallChapels z = Kit.town("e a1b0y5;e a1b2y9;p h1");
        z.council(0);
        for (int i = 0; i < 33; i++) {
            z.years(30, i);
        }
        z.years(8, 1);
        if (z.walker(0, 0) != 1) {
            z.moves(0, 1);
        }
        Kit.hold(z, "y:d>999&y=9?99;y:9-y");
        is("26: d behind 999", z.worn(2, z.corner(2, 0) + 1), 3);
        is("26: d up to 999", z.corner(0, 0) > 997 ? 2 : z.worn(0, z.corner(0, 0) + 2), 2);
        is("11: 998", z.count(7), 998);
        is("17: up to 999", z.years(1, 3), 999);
    }

    // 12
    private static void wall() {
        WallChapels x = Kit.town(TOWN);
        is("12: BUILT", x.wall(0), 1);
        is("12: is there", x.street(0, 3), 1);
        is("12: COINS", x.count(8), 17);
        is("12: KNOCKED", x.wall(3), 0);
        is("12: is open", x.street(3, 3), 0);
        is("12: COINS", x.count(8), 14);
        is("12: no such one", x.wall(5), NONE);
        is("12: no such one", x.wall(-1), NONE);
        is("12: no such one", x.wall(MIN), NONE);
        for (int i = 0; i < 4; i++) {
            x.wall(1);
        }
        is("12: COINS", x.count(8), 2);
        is("12: too few", x.wall(1), NONE);
        is("12: stays", x.street(1, 3), 0);
        is("12: ACTS", x.count(12), 6);
        x.give(1);
        is("12: just enough", x.wall(1), 1);
        is("12: COINS", x.count(8), 0);
    }

    // 13
    private static void lamp() {
        WallChapels x = Kit.town(TOWN);
        is("13: one", x.lamp(1), 1);
        is("13: two", x.lamp(1), 2);
        is("13: three", x.lamp(1), 3);
        is("13: COINS", x.count(8), 14);
        is("13: four", x.lamp(1), NONE);
        is("13: COINS stay", x.count(8), 14);
        is("13: no such one", x.lamp(5), NONE);
        is("13: no such one", x.lamp(-1), NONE);
        WallChapels y = Kit.town("sk3;e;p");
        is("13: COINS for one", y.lamp(0), 1);
        is("13: too few", y.lamp(0), NONE);
        is("13: one COIN left", y.count(8), 1);
        WallChapels z = Kit.town("sk2;e;p");
        is("13: just enough", z.lamp(1), 1);
        is("13: no COIN left", z.count(8), 0);
    }

    // 14
    private static void moves() {
        WallChapels x = Kit.town(TOWN);
        is("14: HOME that was", x.moves(1, 4), 3);
        is("14: HOME", x.walker(1, 0), 4);
        is("14: a COIN", x.count(8), 19);
        is("14: it is so", x.moves(1, 4), NONE);
        is("14: no such walker", x.moves(2, 0), NONE);
        is("14: no such walker", x.moves(-1, 0), NONE);
        is("14: no such corner", x.moves(0, 5), NONE);
        is("14: no such corner", x.moves(0, -1), NONE);
        is("14: COINS stay", x.count(8), 19);
        WallChapels y = Kit.town("sk1;e;p");
        is("14: the last COIN", y.moves(0, 1), 0);
        is("14: too few", y.moves(0, 0), NONE);
        is("14: stays", y.walker(0, 0), 1);
    }

    // 15
    private static void preach() {
        WallChapels x = Kit.town("sk99;e;pf8;p");
        is("15: nine", x.preach(0), 9);
        is("15: COINS", x.count(8), 95);
        is("15: nine already", x.preach(0), NONE);
        is("15: five", x.preach(1), 5);
        is("15: no such one", x.preach(2), NONE);
        is("15: no such one", x.preach(-1), NONE);
        WallChapels y = Kit.town("sk7;e;p");
        is("15: five", y.preach(0), 5);
        is("15: too few", y.preach(0), NONE);
        is("15: COINS stay", y.count(8), 3);
        y.give(1);
        is("15: just enough", y.preach(0), 6);
        is("15: no COIN left", y.count(8), 0);
    }

    // 16
    private static void give() {
        WallChapels x = Kit.town("sk99;e;p");
        is("16: one", x.give(1), 100);
        is("16: fifty", x.give(50), 150);
        is("16: 51", x.give(51), NONE);
        is("16: 0", x.give(0), NONE);
        is("16: below", x.give(-1), NONE);
        is("16: lowest", x.give(MIN), NONE);
        is("16: highest", x.give(MAX), NONE);
        for (int i = 0; i < 16; i++) {
            x.give(50);
        }
        is("16: 950", x.count(8), 950);
        is("16: above 999", x.give(50), NONE);
        is("16: 999", x.give(49), 999);
        is("16: above", x.give(1), NONE);
        is("16: an ACT", x.undo() >= 0, true);
        is("16: undone", x.count(8), 950);
        WallChapels y = Kit.town("sk99;ew1;p");
        for (int i = 0; i < 18; i++) {
            y.give(50);
        }
        is("11: COINS 999 at most", y.count(8), 999);
        y.wall(0);
        y.give(3);
        y.day();
        is("11: stay at 999", y.count(8), 999);
        is("19: COINS then", y.log(0, 2), 999);
    }

    // 17
    private static void years() {
        WallChapels x = Kit.town(TOWN);
        is("17: none", x.years(0, 1), NONE);
        is("17: below", x.years(-1, 1), NONE);
        is("17: 31", x.years(31, 1), NONE);
        is("17: lowest", x.years(MIN, 1), NONE);
        is("17: nothing changed", x.count(7), 0);
        x.council(0);
        is("17: a day", x.years(1, 0), 1);
        // seed 0: three draws, by hand
        long first = 1442695040888963407L;
        long second = first * 6364136223846793005L + 1442695040888963407L;
        long third = second * 6364136223846793005L + 1442695040888963407L;
        int who = (int) ((second >>> 33) % 2);
        int where = (int) ((third >>> 33) % 5);
        is("17: his HOME", x.walker(who, 0), where);
        is("17: the other stays", x.walker(1 - who, 0), who == 0 ? 3 : 0);
        WallChapels y = Kit.town(TOWN);
        y.council(9);
        long seed = 1;
        while ((seed * 6364136223846793005L + 1442695040888963407L >>> 33) % 10 >= 9) {
            seed++;
        }
        long draw = seed * 6364136223846793005L + 1442695040888963407L;
        draw = draw * 6364136223846793005L + 1442695040888963407L;
        int street = (int) ((draw >>> 33) % 5);
        int was = y.street(street, 3);
        is("17: by COUNCIL", y.years(1, seed), 1);
        is("17: the WALL", y.street(street, 3), 1 - was);
        is("17: for nothing", y.count(8) >= 20, true);
        is("17: one ACT", y.undo(), 0);
        is("17: the WALL again", y.street(street, 3), was);
        is("17: DAY again", y.count(7), 0);
        WallChapels z = Kit.town(TOWN);
        is("17: thirty", z.years(30, -5), 30);
        is("17: thirty ACTS", z.count(12), 30);
        is("17: thirty in the LOG", z.count(11), 30);
        is("17: more", z.years(30, Long.MIN_VALUE), 60);
        is("17: forty ACTS", z.count(12), 40);
        is("17: one is undone", z.undo(), 39);
        is("17: a DAY less", z.count(7), 59);
    }

    // 18
    private static void undo() {
        WallChapels x = Kit.town(TOWN);
        is("18: none", x.undo(), NONE);
        x.day();
        x.wall(0);
        x.lamp(1);
        x.moves(0, 2);
        x.preach(0);
        x.give(7);
        is("18: ACTS", x.count(12), 6);
        is("18: give", x.undo(), 5);
        is("18: COINS", x.count(8), 12);
        is("18: preach", x.undo(), 4);
        is("18: FAITH", x.walker(0, 1), 4);
        is("18: moves", x.undo(), 3);
        is("18: HOME", x.walker(0, 0), 0);
        is("18: lamp", x.undo(), 2);
        is("18: LAMPS", x.corner(1, 1), 0);
        is("18: wall", x.undo(), 1);
        is("18: WALL", x.street(0, 3), 0);
        is("18: COINS", x.count(8), 22);
        is("18: day", x.undo(), 0);
        is("18: DAY", x.count(7), 0);
        is("18: MARK", x.corner(0, 0), 0);
        is("18: LOG", x.count(11), 0);
        is("18: COINS", x.count(8), 20);
        is("18: none more", x.undo(), NONE);
        x.seen(0, true);
        is("18: SEEN is no ACT", x.undo(), NONE);
        for (int i = 0; i < 50; i++) {
            x.day();
        }
        for (int i = 39; i >= 0; i--) {
            is("18: the latest forty", x.undo(), i);
        }
        is("18: no more than forty", x.undo(), NONE);
        is("18: ten DAYS stay", x.count(7), 10);
    }

    // 19
    private static void log() {
        WallChapels x = Kit.town(TOWN);
        is("19: empty", x.log(0, 0), NONE);
        x.day();
        x.wall(2);
        x.day();
        is("19: CHAPELS", x.log(0, 0), 1);
        is("19: who lapsed", x.log(0, 1), 2);
        is("19: COINS", x.log(0, 2), 20);
        is("19: CHAPELS ahead", x.log(1, 0), 9);
        is("19: who lapsed ahead", x.log(1, 1), 0);
        is("19: COINS ahead", x.log(1, 2), 22);
        is("19: no such one", x.log(2, 0), NONE);
        is("19: no such one", x.log(-1, 0), NONE);
        is("19: no such thing", x.log(0, 3), NONE);
        is("19: no such thing", x.log(0, -1), NONE);
        for (int i = 0; i < 98; i++) {
            x.day();
        }
        is("19: sixty", x.count(11), 60);
        is("19: the latest", x.log(0, 2), 118);
        is("19: the sixtieth", x.log(59, 2), 59);
        is("19: no 61st", x.log(60, 2), NONE);
        for (int i = 0; i < 40; i++) {
            x.undo();
        }
        is("19: sixty still", x.count(11), 60);
        is("19: the latest then", x.log(0, 2), 78);
        is("19: the first is back", x.log(59, 2), 22);
        is("19: the first is back", x.log(59, 0), 9);
        is("19: the second is back", x.log(58, 2), 20);
    }

    // 20
    private static void walk() {
        WallChapels x = new WallChapels();
        is("20: none", x.walk(0, NONE), NONE);
        Kit.told(x, 2, " 0 7 3");
        is("20: how many", x.walk(0, NONE), 3);
        is("20: first", x.walk(0, 0), 0);
        is("20: second", x.walk(0, 1), 7);
        is("20: third", x.walk(0, 2), 3);
        is("20: no fourth", x.walk(0, 3), NONE);
        is("20: no such", x.walk(0, -2), NONE);
        is("20: no such", x.walk(0, MAX), NONE);
        is("20: no such walk", x.walk(1, 0), NONE);
        is("20: no such walk", x.walk(-1, NONE), NONE);
        Kit.told(x, 2, "0123456701234567");
        is("20: sixteen", x.walk(1, NONE), 16);
        is("20: the last", x.walk(1, 15), 7);
        is("20: no 17th", x.walk(1, 16), NONE);
    }

    private static void checked(WallChapels x, String walk, int behind, int yards, int chapels) {
        int number = Kit.told(x, 2, walk);
        is("21: of " + walk, x.check(number, 0), behind);
        is("21: YARDS of " + walk, x.check(number, 1), yards);
        is("21: CHAPELS of " + walk, x.check(number, 2), chapels);
    }

    // 21
    private static void check() {
        WallChapels x = new WallChapels();
        Kit.told(x, 2, "0");
        is("21: no TOWN", x.check(0, 0), HIDDEN);
        Kit.told(x, 0, TOWN);
        is("21: one corner", x.check(0, 0), NONE);
        is("21: one corner's YARDS", x.check(0, 1), 0);
        is("21: one corner's CHAPELS", x.check(0, 2), 1);
        checked(x, "0132", 3, 10, 9);
        checked(x, "0121 3", NONE, 16, 13);
        checked(x, "5", 0, 0, 0);
        is("21: no such walk", x.check(4, 0), HIDDEN);
        is("21: no such walk", x.check(-1, 0), HIDDEN);
        is("21: no such thing", x.check(0, 3), HIDDEN);
        is("21: no such thing", x.check(0, -1), HIDDEN);
        WallChapels y = Kit.town(RING);
        checked(y, "0134", 2, 2, 0);
        checked(y, "0012", 1, 0, 0);
        checked(y, "3 4 7", 2, 7, 16);
        checked(y, "43012", NONE, 17, 16);
    }

    // 22
    private static void far() {
        WallChapels x = Kit.town(TOWN);
        is("22: far", x.far(0, 3), 10);
        is("22: back", x.far(3, 0), 10);
        is("22: itself", x.far(4, 4), 0);
        is("22: no way", x.far(0, 4), NONE);
        is("22: no such", x.far(0, 5), NONE);
        is("22: no such", x.far(-1, 0), NONE);
        WallChapels y = Kit.town(RING);
        is("22: the shorter street", y.far(0, 1), 2);
        is("22: round the ring", y.far(0, 2), 5);
        is("22: to the tail", y.far(1, 4), 13);
        y.wall(1);
        is("22: by the longer one", y.far(0, 1), 4);
    }

    // 23
    private static void way() {
        WallChapels x = Kit.town(TOWN);
        is("23: way", x.way(2, 3), 213);
        is("23: from 0", x.way(0, 3), 13);
        is("23: itself", x.way(3, 3), 3);
        is("23: itself", x.way(0, 0), 0);
        is("23: no way", x.way(0, 4), NONE);
        is("23: no such", x.way(5, 0), NONE);
        is("23: no such", x.way(0, -1), NONE);
        // as many yards: the fewest corners, then the least row
        WallChapels y = Kit.town("sn5;e a0b1y2;e a1b2y2;e a2b4y2;e a0b3y3;e a3b4y3;p");
        is("23: fewest corners", y.way(0, 4), 34);
        is("23: back", y.way(4, 0), 430);
        WallChapels z = Kit.town("sn5;e a0b3y3;e a3b4y3;e a0b1y4;e a1b4y2;p");
        is("23: least row", z.way(0, 4), 14);
        is("23: least row back", z.way(4, 0), 410);
        WallChapels w = Kit.town("sn8;ea0b7;ea7b6;ea6b5;ea5b4;ea4b3;ea3b2;ea2b1;p");
        is("23: eight corners", w.way(1, 0), 12345670);
        is("23: eight corners", w.way(0, 1), 7654321);
    }

    // 24
    private static void feast() {
        WallChapels x = Kit.town(TOWN);
        is("24: YARDS", x.feast(1, 0), 20);
        is("24: the least row", x.feast(1, 1), 23);
        is("24: from a chapel", x.feast(0, 0), 16);
        is("24: it comes first", x.feast(0, 1), 23);
        is("24: from 3", x.feast(3, 1), 320);
        is("24: from 3", x.feast(3, 0), 16);
        is("24: no way", x.feast(4, 0), NONE);
        is("24: no way", x.feast(4, 1), NONE);
        is("24: no such corner", x.feast(5, 0), NONE);
        is("24: no such thing", x.feast(0, 2), NONE);
        is("24: no such thing", x.feast(0, -1), NONE);
        WallChapels none = Kit.town("ew1;p");
        is("24: no chapel", none.feast(2, 0), 0);
        is("24: no chapel's row", none.feast(2, 1), NONE);
        is("24: no chapel's thing", none.feast(2, 2), NONE);
        WallChapels one = Kit.town(RING);
        is("24: the only one", one.feast(4, 0), 0);
        is("24: the only one's row", one.feast(4, 1), 4);
        is("24: to the only one", one.feast(2, 0), 10);
        is("24: its row", one.feast(2, 1), 4);
        WallChapels star = Kit.town("sn8;ea0b1y9;ea0b2y1;ea0b3y8;ea0b4y2;ea0b5y7;ea0b6y3;ea0b7y6;p");
        is("24: all but the farthest twice", star.feast(0, 0), 2 * 36 - 9);
        is("24: seven", star.feast(0, 1), 2345671);
        WallChapels apart = Kit.town("sn4;e;ea2b3;p");
        is("24: not to all", apart.feast(0, 0), NONE);
    }

    // 25
    private static void soon() {
        WallChapels x = Kit.town(TOWN);
        is("25: never", x.soon(0), NONE);
        is("25: no such", x.soon(2), NONE);
        is("25: no such", x.soon(-1), NONE);
        x.wall(2);
        is("25: at once", x.soon(1), 1);
        is("25: nothing changed", x.count(7), 0);
        is("25: nothing changed", x.walker(1, 1), 0);
        // no walls change ahead, so who goes now goes on
        is("25: the other never", x.soon(0), NONE);
    }

    // 26
    private static void worn() {
        WallChapels x = Kit.town(TOWN);
        is("26: one", x.worn(0, 1), 1);
        is("26: five", x.worn(0, 5), 5);
        is("26: never", x.worn(2, 1), NONE);
        // the first goes to 0 alone, the second to 3
        is("26: sixty", x.worn(0, 60), 60);
        is("26: 61", x.worn(0, 61), NONE);
        is("26: out of bounds", x.worn(0, 0), NONE);
        is("26: out of bounds", x.worn(0, 1000), NONE);
        is("26: no such", x.worn(5, 1), NONE);
        is("26: no such", x.worn(-1, 1), NONE);
        is("26: nothing changed", x.corner(0, 0), 0);
        x.day();
        is("26: there", x.worn(0, 1), 0);
        is("26: one more", x.worn(0, 2), 1);
    }

    // 27
    private static void seen() {
        WallChapels x = Kit.town(TOWN);
        is("27: no such", x.seen(5, true), NONE);
        is("27: no such", x.seen(-1, false), NONE);
        for (int i = 1; i <= 10; i++) {
            is("27: how many", x.seen(0, true), i);
        }
        is("27: ten", x.seen(0, true), NONE);
        is("27: ten", x.count(10), 10);
        is("27: no ACT", x.count(12), 0);
    }

    // 28
    private static void knocked() {
        WallChapels x = Kit.town(TOWN);
        is("28: all", x.knocked(NONE), 3);
        is("28: first", x.knocked(0), 3);
        is("28: second", x.knocked(1), 4);
        is("28: as now", x.knocked(2), 99);
        is("28: no such", x.knocked(3), NONE);
        is("28: no such", x.knocked(-2), NONE);
        // 3 knocked through: 4 is a chapel, 3 is none; 4 knocked through: 2 and 3 are none
        x.seen(3, false);
        is("28: two", x.knocked(NONE), 2);
        x.seen(2, true);
        is("28: one", x.knocked(NONE), 1);
        is("28: it", x.knocked(0), 3);
        x.seen(4, false);
        is("28: nothing fits", x.knocked(NONE), 0);
        is("28: nothing", x.knocked(0), NONE);
        is("28: no walls changed", x.street(3, 3), 1);
        WallChapels y = Kit.town("sn8;ew1;ew1;ew1;ew1;ew1;ew1;ew1;ew1;ew1;ew1;ew1;ew1;p");
        is("28: thirteen", y.knocked(NONE), 13);
        is("28: street 0", y.knocked(0), 0);
        is("28: street 11", y.knocked(11), 11);
        is("28: as now, last", y.knocked(12), 99);
    }

    // 29
    private static void ask() {
        WallChapels x = Kit.town(TOWN);
        // chapels: as now 0, 2, 3; by 3: 0, 2, 4; by 4: 0
        is("29: two against one", x.ask(), 2);
        x.seen(3, false);
        is("29: one against one", x.ask(), 2);
        x.seen(2, true);
        is("29: of one all are alike", x.ask(), 0);
        x.seen(2, false);
        is("29: nothing fits", x.ask(), NONE);
    }

    // 30
    private static void walls() {
        WallChapels x = Kit.town(TOWN);
        is("30: two of three", x.walls(2), 3);
        is("30: chapels already", x.walls(13), 0);
        is("30: by none", x.walls(16), NONE);
        is("30: by none", x.walls(18), NONE);
        is("30: 1 and 2", x.walls(6), 5);
        is("30: no set", x.walls(0), NONE);
        is("30: no such", x.walls(32), NONE);
        is("30: no such", x.walls(-1), NONE);
        is("30: no such", x.walls(MIN), NONE);
        is("30: no such", x.walls(MAX), NONE);
        is("30: nothing built", x.count(8), 20);
        WallChapels y = Kit.town(RING);
        is("30: one for 2", y.walls(4), 4);
        is("30: two for 0", y.walls(1), 3);
        is("30: 1 and 2 of the ring", y.walls(6), 5);
        WallChapels z = Kit.town("e;e;e;e;e;e;e;e;e;e;e;e;p");
        is("30: eleven of twelve", z.walls(3), 2047);
        is("30: three corners", z.walls(7), NONE);
        is("30: no such corner", z.walls(16), NONE);
        is("31: twelve", z.parted(0, 1), 4095);
    }

    // 31
    private static void parted() {
        WallChapels x = Kit.town(TOWN);
        is("31: one", x.parted(0, 3), 1);
        is("31: of several the least", x.parted(3, 2), 2);
        is("31: they are", x.parted(0, 4), 0);
        is("31: alike", x.parted(0, 0), NONE);
        is("31: no such", x.parted(0, 5), NONE);
        is("31: no such", x.parted(-1, 0), NONE);
        WallChapels y = Kit.town(RING);
        is("31: three", y.parted(0, 1), 7);
        is("31: two", y.parted(0, 2), 12);
        is("31: the tail", y.parted(0, 4), 32);
        is("31: nothing built", y.count(8), 99);
    }

    // 32
    private static void draws() {
        WallChapels x = Kit.town(TOWN);
        is("32: from HOME", x.draws(0, 0), 4);
        is("32: less YARDS by 3", x.draws(0, 2), 2);
        is("32: less YARDS by 3", x.draws(0, 3), 1);
        is("32: no chapel", x.draws(0, 1), HIDDEN);
        is("32: no way", x.draws(0, 4), HIDDEN);
        is("32: no such walker", x.draws(2, 0), HIDDEN);
        is("32: no such walker", x.draws(-1, 0), HIDDEN);
        is("32: no such corner", x.draws(0, 5), HIDDEN);
        is("32: no such corner", x.draws(0, -1), HIDDEN);
        x.lamp(0);
        is("32: 2 for a LAMP", x.draws(0, 0), 6);
        x.day();
        is("32: half a MARK, cut", x.draws(0, 0), 6);
        x.day();
        is("32: half a MARK", x.draws(0, 0), 7);
        Kit.hold(x, "y:l*1000+w*10+f");
        is("32: at most 99", x.draws(0, 0), 99);
        is("32: w and f", x.draws(1, 3), 10);
        Kit.hold(x, "y:c*10+d");
        is("32: c and d", x.draws(0, 0), 32);
        WallChapels y = Kit.town("sn4;e;ea2b3;p");
        is("32: a chapel without a way", y.draws(0, 2), HIDDEN);
        Kit.hold(y, "y:0-500");
        is("32: at least -99", y.draws(0, 0), -99);
        // as the words stand, no bound but for a law's worth
        WallChapels z = Kit.town("e;pf9;p;p;p");
        for (int i = 0; i < 60; i++) {
            z.day();
        }
        is("32: without a law", z.draws(0, 0), 9 + 240 / 2);
    }

    // 33
    private static void goes() {
        WallChapels x = Kit.town(TOWN);
        is("33: goes", x.goes(0), 0);
        is("33: goes", x.goes(1), 3);
        is("33: no such", x.goes(2), NONE);
        is("33: no such", x.goes(-1), NONE);
        Kit.hold(x, "y:5");
        is("33: of several the lowest", x.goes(1), 0);
        Kit.hold(x, "y:0-500");
        is("33: even at -99", x.goes(1), 0);
        x.wall(2);
        is("33: nowhere", x.goes(1), NONE);
    }

    // 34
    private static void goers() {
        WallChapels x = Kit.town(TOWN);
        is("34: one", x.goers(0), 1);
        is("34: the other", x.goers(3), 2);
        is("34: nobody", x.goers(2), 0);
        is("34: no chapel", x.goers(4), 0);
        is("34: no such", x.goers(5), NONE);
        is("34: no such", x.goers(-1), NONE);
        Kit.hold(x, "y:5");
        is("34: both", x.goers(0), 3);
    }

    // 35
    private static void game() {
        WallChapels x = Kit.town(TOWN);
        is("35: alone", x.game(0, 1, 0, 3, 0), 4);
        is("35: the second", x.game(0, 1, 0, 3, 1), 0);
        is("35: both there", x.game(0, 1, 0, 0, 0), 0);
        is("35: both there", x.game(0, 1, 0, 0, 1), -7);
        is("35: no chapel", x.game(0, 1, 1, 3, 0), -20);
        is("35: not there", x.game(0, 1, 7, 7, 0), -24);
        is("35: not there", x.game(0, 1, 7, 6, 1), -20);
        is("35: the other way round", x.game(1, 0, 3, 0, 0), 0);
        is("35: alike", x.game(0, 0, 0, 0, 0), HIDDEN);
        is("35: no such", x.game(0, 2, 0, 0, 0), HIDDEN);
        is("35: no such", x.game(-1, 0, 0, 0, 0), HIDDEN);
        is("35: x", x.game(0, 1, 8, 0, 0), HIDDEN);
        is("35: x", x.game(0, 1, -1, 0, 0), HIDDEN);
        is("35: y", x.game(0, 1, 0, 8, 0), HIDDEN);
        is("35: y", x.game(0, 1, 0, -1, 0), HIDDEN);
        is("35: what", x.game(0, 1, 0, 0, 2), HIDDEN);
        is("35: what", x.game(0, 1, 0, 0, -1), HIDDEN);
        x.wall(2);
        is("35: can't come to", x.game(0, 1, 2, 0, 1), -20);
    }

    // 36
    private static void rests() {
        WallChapels x = Kit.town(TOWN);
        is("36: one", x.rests(0, 1, NONE), 1);
        is("36: it", x.rests(0, 1, 0), 3);
        is("36: the other way round", x.rests(1, 0, 0), 30);
        is("36: no such", x.rests(0, 1, 1), NONE);
        is("36: no such", x.rests(0, 1, -2), NONE);
        is("36: alike", x.rests(1, 1, NONE), NONE);
        is("36: no such walker", x.rests(0, 2, NONE), NONE);
        is("36: no such walker", x.rests(-1, 0, NONE), NONE);
        Kit.hold(x, "y:5");
        // any two chapels of 0, 2, 3
        is("36: six", x.rests(0, 1, NONE), 6);
        int[] due = {2, 3, 20, 23, 30, 32};
        for (int i = 0; i < 6; i++) {
            is("36: rising", x.rests(0, 1, i), due[i]);
        }
        // among corners there are: two chapels worth -99 are all there is
        WallChapels y = Kit.town("sn2;e;p;p");
        Kit.hold(y, "y:0-99");
        is("36: no third corner", y.rests(0, 1, NONE), 2);
        is("36: apart", y.rests(0, 1, 0), 1);
        WallChapels z = Kit.town("ew1;p;p");
        is("36: no chapels, apart", z.rests(0, 1, NONE), 12);
    }

    // 37
    private static void odds() {
        WallChapels x = Kit.town(TOWN);
        is("37: half", x.odds(0, 50), 875000000);
        is("37: none", x.odds(0, 100), 0);
        is("37: sure", x.odds(0, 0), 1000000000);
        is("37: a third or so", x.odds(0, 33), 1000000000 - 35937000);
        is("37: out of bounds", x.odds(0, 101), NONE);
        is("37: out of bounds", x.odds(0, -1), NONE);
        is("37: no such", x.odds(2, 0), NONE);
        is("37: no such", x.odds(-1, 0), NONE);
        x.wall(2);
        is("37: nothing to come to", x.odds(1, 0), 0);
        is("37: two", x.odds(0, 50), 750000000);
        // cut at each of the seven
        WallChapels star = Kit.town("sn8;ea0b1;ea0b2;ea0b3;ea0b4;ea0b5;ea0b6;ea0b7;p");
        is("37: cut", star.odds(0, 1), 1000000000);
        is("37: cut", star.odds(0, 3), 1000000000);
        is("37: cut", star.odds(0, 7), 1000000000 - 8);
        is("37: cut", star.odds(0, 99), 1000000000 - 932065346);
    }

    // 38
    private static void shares() {
        WallChapels x = Kit.town(TOWN);
        is("38: none", x.shares(0, 100), 0);
        x.day();
        is("38: half", x.shares(0, 100), 50);
        is("38: cut", x.shares(3, 999), 499);
        is("38: nothing", x.shares(1, 999), 0);
        is("38: 0", x.shares(0, 0), 0);
        is("38: out of bounds", x.shares(0, 1000), NONE);
        is("38: out of bounds", x.shares(0, -1), NONE);
        is("38: no such", x.shares(5, 1), NONE);
        is("38: no such", x.shares(-1, 1), NONE);
    }

    // 39
    private static void all() {
        WallChapels x = Kit.town(TOWN);
        int[] due = {13, 7, 2, 0, 0, 4, 1, 0, 0, 4, 13, 13};
        for (int what = 0; what < 12; what++) {
            is("39: all(" + what + ")", x.all(what), due[what]);
        }
        is("39: no such", x.all(12), NONE);
        is("39: no such", x.all(-1), NONE);
        WallChapels y = Kit.town(RING);
        int[] ring = {16, 32, 1, 2, 0, 4, 0, 1, 1, 3, 24, 16};
        for (int what = 0; what < 12; what++) {
            is("39: ring all(" + what + ")", y.all(what), ring[what]);
        }
        y.lamp(4);
        is("39: DARK", y.all(11), 0);
        y.lamp(0);
        is("39: DARK", y.all(11), 0);
        y.day();
        is("39: DEEPEST", y.all(4), 4);
        is("39: no TOWN", new WallChapels().all(0), NONE);
        WallChapels z = Kit.town("e;pf3;pf7;pf7");
        is("39: FAITHFUL, the lowest", z.all(7), 1);
        is("39: DARK", z.all(11), 3);
        z.lamp(0);
        is("39: not DARK", z.all(11), 2);
        is("39: BUSIEST, the lowest", z.all(6), 0);
        is("39: LONELIEST, the lowest", z.all(5), 2);
        is("39: REMOTE, the lowest", z.all(8), 0);
        is("39: MIDDLE, the lowest", z.all(9), 2);
        z.day();
        int worn = z.corner(0, 0) > 0 ? 0 : 1;
        is("39: DEEPEST", z.all(4), worn);
        WallChapels w = Kit.town("e;p h1f0");
        w.day();
        is("39: DEEPEST at 1", w.all(4), 1);
    }

    // 40
    private static void around() {
        WallChapels x = Kit.town(TOWN);
        is("40: itself", x.around(1, 0), 2);
        is("40: 3", x.around(1, 3), 6);
        is("40: 4", x.around(1, 4), 7);
        is("40: all", x.around(1, 99), 15);
        is("40: alone", x.around(4, 99), 16);
        is("40: out of bounds", x.around(1, 100), NONE);
        is("40: out of bounds", x.around(1, -1), NONE);
        is("40: no such", x.around(5, 1), NONE);
        is("40: no such", x.around(-1, 1), NONE);
    }

    // 41
    private static void image() {
        WallChapels x = Kit.town(TOWN);
        is("41: DAY 0", x.image(), 0);
        x.day();
        is("41: DAY 1", x.image(), 1);
        x.day();
        is("41: instead of the one ahead", x.back(), 1);
        is("41: no ACT", x.undo(), NONE);
        is("41: no TOWN", new WallChapels().image(), NONE);
    }

    // 42
    private static void back() {
        WallChapels x = Kit.town(TOWN);
        is("42: no IMAGE", x.back(), NONE);
        x.day();
        x.lamp(0);
        x.wall(2);
        x.day();
        x.image();
        x.day();
        x.wall(0);
        x.lamp(1);
        x.moves(0, 4);
        x.preach(1);
        x.give(9);
        x.seen(0, true);
        x.council(5);
        is("42: the DAY", x.back(), 2);
        is("42: COINS", x.count(8), 18);
        is("42: WALLS", x.street(0, 3), 0);
        is("42: WALLS", x.street(2, 3), 1);
        is("42: MARKS", x.corner(0, 0), 2);
        is("42: LAMPS", x.corner(0, 1), 1);
        is("42: LAMPS", x.corner(1, 1), 0);
        is("42: HOMES", x.walker(0, 0), 0);
        is("42: FAITH", x.walker(1, 1), 0);
        is("42: LOG", x.count(11), 2);
        is("42: LOG", x.log(0, 1), 2);
        is("42: LOG", x.log(1, 2), 22);
        is("42: no ACT", x.undo(), NONE);
        is("42: SEEN stays", x.count(10), 1);
        is("42: COUNCIL stays", x.count(9), 5);
        x.day();
        is("42: once more", x.back(), 2);
        is("42: no ACT", x.count(12), 0);
        // the LOG of the image is as it was, even where other days were written since
        WallChapels y = Kit.town(TOWN);
        for (int i = 0; i < 100; i++) {
            y.day();
        }
        y.image();
        for (int i = 0; i < 40; i++) {
            y.undo();
        }
        y.wall(0);
        for (int i = 0; i < 100; i++) {
            y.day();
        }
        is("42: the DAY", y.back(), 100);
        is("42: the LOG's latest", y.log(0, 2), 220);
        is("42: the LOG's last", y.log(59, 2), 102);
        Kit.told(y, 0, TOWN);
        is("42: no IMAGE of this TOWN", y.back(), NONE);
    }

    // 43
    private static void count() {
        WallChapels x = Kit.town(TOWN);
        Kit.told(x, 1, "y:1");
        Kit.told(x, 1, "y:2");
        Kit.told(x, 2, "0");
        x.law(1);
        x.council(4);
        x.seen(1, false);
        x.day();
        x.day();
        x.wall(0);
        Kit.tape(x, "abc");
        int[] due = {5, 5, 2, 2, 1, 3, 1, 2, 21, 4, 1, 2, 3};
        for (int what = 0; what < due.length; what++) {
            is("43: count(" + what + ")", x.count(what), due[what]);
        }
        is("43: others", x.count(13), HIDDEN);
        is("43: others", x.count(-1), HIDDEN);
        is("43: others", x.count(MIN), HIDDEN);
        is("NONE", NONE, -1);
        is("HIDDEN", HIDDEN, -1000000);
    }
}
