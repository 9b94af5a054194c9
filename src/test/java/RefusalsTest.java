import java.util.ArrayList;
import java.util.List;
import java.util.NoSuchElementException;
import java.util.function.Supplier;
import java.util.function.ToLongFunction;

/**
 * What is refused answers as told and changes nothing; nor does what only asks ("apart, from as it is").
 * All that can be read of an object that made the call stands beside all of one that did not.
 */
public final class RefusalsTest {
    private static final int NONE = WallChapels.NONE;
    private static final int HIDDEN = WallChapels.HIDDEN;
    private static final int THROWN = -99;
    private static final int MIN = Integer.MIN_VALUE;
    private static final int MAX = Integer.MAX_VALUE;
    private static final String TOWN = "sn5k20;ea0b1y4;ea1b2y3;ea1b3y6;ea3b4y2w1;ea2b3y9w1;ph0f4;ph3f0";

    private final String name;
    private final Supplier<WallChapels> made;
    private final String untouched;

    private RefusalsTest(String name, Supplier<WallChapels> made) {
        this.name = name;
        this.made = made;
        this.untouched = read(made.get());
    }

    public static void main(String[] args) {
        RefusalsTest empty = new RefusalsTest("no TOWN", WallChapels::new);
        RefusalsTest lived = new RefusalsTest("a TOWN", RefusalsTest::lived);
        RefusalsTest poor = new RefusalsTest("no COINS", RefusalsTest::poor);
        RefusalsTest full = new RefusalsTest("all full", RefusalsTest::full);
        empty.withoutTown();
        for (RefusalsTest test : new RefusalsTest[] {empty, lived, poor, full}) {
            test.nothingOfThatNumber();
            test.asked();
        }
        lived.noSuchThings();
        lived.byItsText();
        besideAnotherText();
        poor.withoutCoins();
        full.atMost();
        Kit.close();
    }

    // ---- what there is to be read

    /** An image, acts to undo, a law that holds, walks, what was seen and a text on the tape that is none. */
    private static WallChapels lived() {
        WallChapels x = Kit.town(TOWN);
        Kit.told(x, 1, "y:w*3+l-y");
        Kit.told(x, 1, "y:f*d");
        Kit.told(x, 2, "0132");
        x.council(4);
        x.day();
        x.lamp(2);
        x.image();
        x.day();
        x.wall(1);
        x.law(0);
        x.moves(0, 3);
        x.seen(3, true);
        x.years(2, 8);
        x.give(3);
        Kit.tape(x, "e;p;e9");
        return x;
    }

    private static WallChapels poor() {
        WallChapels x = Kit.town("sn5k0;ea0b1;ea1b2w1;pf0;p;p");
        x.image();
        Kit.tape(x, "y:");
        return x;
    }

    private static WallChapels full() {
        WallChapels x = Kit.town("sn4k99;e;e;e;e;e;e;e;e;e;e;ea1b2;ea2b3;pf9;pf9;pf9;ph1f9");
        for (int i = 0; i < 4; i++) {
            Kit.told(x, 1, "y:w-" + i);
            Kit.told(x, 2, "0123456701234567");
        }
        for (int c = 0; c < 4; c++) {
            for (int i = 0; i < 3; i++) {
                x.lamp(c);
            }
        }
        for (int i = 0; i < 10; i++) {
            x.seen(2, true);
        }
        x.council(0);
        for (int i = 0; i < 33; i++) {
            x.years(30, i);
        }
        x.years(9, 5);
        while (x.count(8) < 999) {
            x.give(Math.min(50, 999 - x.count(8)));
        }
        x.law(3);
        Kit.tape(x, "1".repeat(240));
        int[] counts = {4, 12, 4, 4, 4, 240, 3, 999, 999, 0, 10, 60, 40};
        for (int what = 0; what < counts.length; what++) {
            Kit.same("full: count(" + what + ")", x.count(what), counts[what]);
        }
        return x;
    }

    private static long walkerOf(WallChapels x, int walker, int what) {
        try {
            return x.walker(walker, what);
        } catch (NoSuchElementException e) {
            return THROWN;
        }
    }

    /** All that can be read; at last the acts are undone, which tells what was kept of them. */
    private static String read(WallChapels x) {
        StringBuilder b = new StringBuilder();
        readNow(x, b);
        for (int sort = 0; sort < 3; sort++) {
            b.append(" fault ").append(x.fault(sort));
        }
        for (int k = 0; k < 4; k++) {
            b.append(" walk ").append(x.walk(k, NONE)).append(' ').append(x.walk(k, 3)).append(' ').append(x.check(k, 1));
            b.append(" law ").append(x.law(k) ? x.draws(0, 0) : NONE);
        }
        b.append(" knocked ").append(x.knocked(NONE)).append(' ').append(x.knocked(0)).append(' ').append(x.ask());
        for (int i = 0; i < 2; i++) {
            b.append(" undo ").append(x.undo());
            readNow(x, b);
        }
        b.append(" back ").append(x.back());
        readNow(x, b);
        return b.append(" undo ").append(x.undo()).toString();
    }

    private static void readNow(WallChapels x, StringBuilder b) {
        for (int what = 0; what <= 12; what++) {
            b.append(' ').append(x.count(what));
        }
        for (int c = 0; c < 5; c++) {
            b.append(" corner ").append(x.corner(c, 0)).append(' ').append(x.corner(c, 1)).append(' ').append(x.corner(c, 2));
        }
        for (int s = 0; s < 12; s++) {
            b.append(" street ").append(x.street(s, 3));
        }
        for (int w = 0; w < 4; w++) {
            b.append(" walker ").append(walkerOf(x, w, 0)).append(' ').append(walkerOf(x, w, 1)).append(' ').append(x.goes(w));
        }
        for (int i : new int[] {0, 1, 2, 58, 59}) {
            b.append(" log ").append(x.log(i, 0)).append(' ').append(x.log(i, 1)).append(' ').append(x.log(i, 2));
        }
    }

    // ---- calls that are to change nothing

    private void refused(String call, long due, ToLongFunction<WallChapels> made) {
        WallChapels x = this.made.get();
        Kit.same(name + ": " + call, made.applyAsLong(x), due);
        unchanged(call, x);
    }

    private void unchanged(String call, WallChapels x) {
        String after = read(x);
        int at = 0;
        while (at < after.length() && at < untouched.length() && after.charAt(at) == untouched.charAt(at)) {
            at++;
        }
        String unlike = after.equals(untouched) ? "" : " but for '" + around(after, at) + "', which was '" + around(untouched, at) + "'";
        Kit.same(name + ": behind " + call + " all is as it was" + unlike, unlike.isEmpty(), true);
    }

    private static String around(String text, int at) {
        return text.substring(Math.max(0, at - 30), Math.min(text.length(), at + 10));
    }

    private void withoutTown() {
        refused("day", NONE, WallChapels::day);
        refused("wall", NONE, x -> x.wall(0));
        refused("lamp", NONE, x -> x.lamp(0));
        refused("moves", NONE, x -> x.moves(0, 1));
        refused("preach", NONE, x -> x.preach(0));
        refused("give", NONE, x -> x.give(1));
        refused("years", NONE, x -> x.years(1, 1));
        refused("undo", NONE, WallChapels::undo);
        refused("seen", NONE, x -> x.seen(0, true));
        refused("image", NONE, WallChapels::image);
        refused("back", NONE, WallChapels::back);
        refused("law 0", 0, x -> x.law(0) ? 1 : 0);
        refused("council that is so", 0, x -> x.council(1) ? 1 : 0);
        refused("an empty text", NONE, x -> x.text(0));
    }

    /** Numbers that name nothing, whatever there is. */
    private void nothingOfThatNumber() {
        for (int v : new int[] {MIN, -2, -1, 12, 32, 64, 241, MAX}) {
            boolean none = v == -1;
            refused("end " + v, 0, x -> x.end(v < 0 ? v : Math.max(v, 241)) ? 1 : 0);
            refused("fault " + v, -2, x -> x.fault(v));
            refused("text " + v, NONE, x -> x.text(v));
            refused("law " + v, 0, x -> x.law(none ? -3 : v) ? 1 : 0);
            refused("council " + v, 0, x -> x.council(v) ? 1 : 0);
            refused("wall " + v, NONE, x -> x.wall(v));
            refused("lamp " + v, NONE, x -> x.lamp(v));
            refused("moves " + v, NONE, x -> x.moves(v, 1));
            refused("moves to " + v, NONE, x -> x.moves(0, v));
            refused("preach " + v, NONE, x -> x.preach(v));
            refused("give " + v, NONE, x -> x.give(v == 12 || v == 32 ? 51 : v));
            refused("years " + v, NONE, x -> x.years(v == 12 ? 31 : v, 1));
            refused("seen " + v, NONE, x -> x.seen(v, true));
            refused("walker " + v, THROWN, x -> walkerOf(x, v, 0));
            refused("walker's " + v, THROWN, x -> walkerOf(x, 0, v));
        }
    }

    private void noSuchThings() {
        refused("council that is so", 0, x -> x.council(4) ? 1 : 0);
        refused("law 2", 0, x -> x.law(2) ? 1 : 0);
        refused("wall 5", NONE, x -> x.wall(5));
        refused("lamp 5", NONE, x -> x.lamp(5));
        refused("moves 2", NONE, x -> x.moves(2, 0));
        refused("moves to 5", NONE, x -> x.moves(0, 5));
        refused("moves home", NONE, x -> x.moves(0, (int) walkerOf(x, 0, 0)));
        refused("preach 2", NONE, x -> x.preach(2));
        refused("give 0", NONE, x -> x.give(0));
        refused("give 51", NONE, x -> x.give(51));
        refused("years 0", NONE, x -> x.years(0, 1));
        refused("years 31", NONE, x -> x.years(31, 1));
        refused("seen 5", NONE, x -> x.seen(5, false));
        refused("end 7", 0, x -> x.end(7) ? 1 : 0);
        refused("end 6 of 6", 1, x -> x.end(6) ? 1 : 0);
        refused("feed nothing", 6, x -> x.feed(0, 0, 0, 0, 0));
    }

    /** A text with a fault is none, of whatever sort. */
    private void byItsText() {
        for (int sort = 0; sort < 3; sort++) {
            int k = sort;
            refused("fault of " + sort, sort == 0 ? 5 : 0, x -> x.fault(k));
            refused("text of " + sort, NONE, x -> x.text(k));
        }
    }

    /** A text of another town that is on the tape, but not told, changes no answer about the town there is. */
    private static void besideAnotherText() {
        String[] texts = {"sn2;e;p", "sn8k1;ea7b6y40;ea6b5w1;ea5b4;ea4b3;ea3b2;ea2b1;e;e;e;e;e;e;p;p;p;ph7f0", "sn3;ea1b2;ea1b2;p;p;q", "e"};
        for (String text : texts) {
            WallChapels untouched = lived();
            Kit.tape(untouched, text);
            WallChapels looked = lived();
            Kit.tape(looked, text);
            looked.fault(0);
            String[] due = answers(untouched).split(";");
            String[] got = answers(looked).split(";");
            for (int i = 0; i < due.length; i++) {
                Kit.same("beside '" + text + "': " + got[i] + ", not " + due[i], got[i].equals(due[i]), true);
            }
            Kit.same("beside '" + text + "': answers", got.length, due.length);
            // the last corner's lamp and the last walker's faith
            WallChapels last = Kit.town("sn8k99;ea7b6;ea7b5;p;p;p;pf9");
            last.lamp(6);
            Kit.tape(last, text);
            last.fault(0);
            Kit.same("beside '" + text + "': FAITHFUL", last.all(7), 3);
            Kit.same("beside '" + text + "': DARK", last.all(11), 32);
        }
    }

    /** What every call answers that asks, then what acts bring about; some 350 calls. */
    private static String answers(WallChapels x) {
        StringBuilder b = new StringBuilder();
        for (int what = 0; what <= 12; what++) {
            b.append(";count and all ").append(x.count(what)).append(' ').append(x.all(what));
        }
        for (int c = 0; c < 5; c++) {
            b.append(";corner ").append(x.corner(c, 2)).append(' ').append(x.draws(0, c)).append(' ').append(x.goers(c));
            b.append(";far ").append(x.far(0, c)).append(' ').append(x.way(c, 3)).append(' ').append(x.around(c, 9));
            b.append(";feast ").append(x.feast(c, 0)).append(' ').append(x.feast(c, 1));
            b.append(";worn ").append(x.worn(c, 5)).append(' ').append(x.shares(c, 999));
            b.append(";parted ").append(x.parted(0, c)).append(' ').append(x.parted(c, 3));
            b.append(";street ").append(x.street(c, 0)).append(' ').append(x.street(c, 1)).append(' ').append(x.street(c, 2));
        }
        for (int set = 0; set < 34; set++) {
            b.append(";walls ").append(x.walls(set));
        }
        for (int w = 0; w < 4; w++) {
            b.append(";walker ").append(x.goes(w)).append(' ').append(x.soon(w)).append(' ').append(x.odds(w, 40));
            b.append(";game ").append(x.game(w, 1, w, 3, 0)).append(' ').append(x.game(0, w, 4, w, 1)).append(' ').append(x.rests(0, w, NONE));
        }
        for (int i = -1; i < 6; i++) {
            b.append(";knocked ").append(x.knocked(i)).append(' ').append(x.check(0, i)).append(' ').append(x.rests(0, 1, i));
        }
        b.append(";ask ").append(x.ask());
        b.append(";acts ").append(x.wall(3)).append(' ').append(x.lamp(4)).append(' ').append(x.preach(1)).append(' ').append(x.day());
        for (int seed = 0; seed < 5; seed++) {
            b.append(";years ").append(x.years(3, seed)).append(' ').append(x.count(8)).append(' ').append(x.goes(0)).append(' ').append(x.goes(1));
            b.append(";homes ").append(walkerOf(x, 0, 0)).append(' ').append(walkerOf(x, 1, 0)).append(' ').append(x.all(0));
        }
        return b.append(";undo ").append(x.undo()).append(' ').append(x.all(1)).append(";back ").append(x.back()).append(' ').append(x.all(0)).toString();
    }

    private void withoutCoins() {
        refused("wall", NONE, x -> x.wall(0));
        refused("wall to knock through", NONE, x -> x.wall(1));
        refused("lamp", NONE, x -> x.lamp(0));
        refused("moves", NONE, x -> x.moves(0, 1));
        refused("preach", NONE, x -> x.preach(0));
        refused("undo", NONE, WallChapels::undo);
        refused("text", NONE, x -> x.text(1));
        for (int coins = 1; coins <= 3; coins++) {
            int k = coins;
            RefusalsTest some = new RefusalsTest("COINS " + k, () -> Kit.town("sk" + k + ";e;ew1;p"));
            some.refused("preach", NONE, x -> x.preach(0));
            if (k < 3) {
                some.refused("wall", NONE, x -> x.wall(0));
                some.refused("wall to knock through", NONE, x -> x.wall(1));
            }
            if (k < 2) {
                some.refused("lamp", NONE, x -> x.lamp(0));
            }
        }
    }

    private void atMost() {
        refused("feed", NONE, x -> x.feed(0, 0, 0, 0, 1));
        refused("feed much", NONE, x -> x.feed(-1, -1, -1, -1, -1));
        refused("feed nothing", 240, x -> x.feed(0, 0, 0, 0, 0));
        refused("day", NONE, WallChapels::day);
        refused("years", NONE, x -> x.years(1, 1));
        refused("years 30", NONE, x -> x.years(30, 1));
        refused("give", NONE, x -> x.give(1));
        refused("give 50", NONE, x -> x.give(50));
        refused("seen", NONE, x -> x.seen(0, false));
        refused("back", NONE, WallChapels::back);
        for (int i = 0; i < 4; i++) {
            int k = i;
            refused("lamp", NONE, x -> x.lamp(k));
            refused("preach", NONE, x -> x.preach(k));
        }
        // a fifth law, a fifth walk: a text without a fault that stays on the tape
        String[] texts = {"", "y:1", "70"};
        for (int sort = 1; sort < 3; sort++) {
            int k = sort;
            Supplier<WallChapels> told = () -> {
                WallChapels x = full();
                Kit.tape(x, texts[k]);
                return x;
            };
            new RefusalsTest("four of " + sort, told).refused("text of " + sort, NONE, x -> x.text(k));
        }
    }

    // ---- 4, 6 to 8, 19 to 26, 28 to 40, 43: what is asked, whatever it answers

    private void asked() {
        List<ToLongFunction<WallChapels>> calls = new ArrayList<>();
        for (int k = -1; k <= 3; k++) {
            int v = k;
            calls.add(x -> x.fault(v) + x.corner(v, 0) + x.street(v, 3) + walkerOf(x, v, 1) + x.count(v) + x.log(v, 2));
            calls.add(x -> x.walk(v, 2) + x.check(v, 2) + x.far(v, 2) + x.way(2, v));
            calls.add(x -> x.feast(v, 0) + x.feast(v, 1));
            calls.add(x -> x.soon(v));
            calls.add(x -> x.worn(v, 1) + x.worn(v, 60) + x.worn(v, 999));
            calls.add(x -> x.knocked(v) + x.ask());
            calls.add(x -> x.walls(v) + x.walls(1 << v) + x.parted(v, 2));
            calls.add(x -> x.draws(v, 1) + x.goes(v) + x.goers(v));
            calls.add(x -> x.game(v, 1, 0, 3, 0) + x.rests(v, 1, NONE) + x.rests(0, v, 0));
            calls.add(x -> x.odds(v, 37) + x.shares(v, 70) + x.around(v, 5));
            calls.add(x -> x.all(v) + x.all(v + 4) + x.all(v + 8));
        }
        for (int i = 0; i < calls.size(); i++) {
            WallChapels x = made.get();
            long once = calls.get(i).applyAsLong(x);
            Kit.same(name + ": asked " + i + " twice", calls.get(i).applyAsLong(x), once);
            unchanged("asking " + i, x);
        }
        Kit.same("HIDDEN", HIDDEN, -1000000);
    }
}
