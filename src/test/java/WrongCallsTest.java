import java.util.NoSuchElementException;

/** Wild arguments in all states: nothing is thrown but what the document names. */
public final class WrongCallsTest {
    private static final int[] WILD = {Integer.MIN_VALUE, Integer.MIN_VALUE + 1, -1000000, -100, -3, -2, -1, 0, 1, 2, 3, 4, 7, 8,
        9, 10, 11, 12, 13, 15, 16, 31, 32, 33, 40, 41, 59, 60, 61, 63, 64, 98, 99, 100, 101, 255, 256, 999, 1000, 4095, 4096,
        65536, 1000000, Integer.MAX_VALUE - 1, Integer.MAX_VALUE};
    private static final int KINDS = 43;

    public static void main(String[] args) {
        Kit.Dice dice = new Kit.Dice(5);
        for (int run = 0; run < 400; run++) {
            WallChapels x = new WallChapels();
            if (run % 4 > 0) {
                Kit.told(x, 0, run % 4 == 1 ? "e;p" : "sn8k99;ea0b1;ea1b2;ea2b3;ea3b4w1;ea4b5;ea5b6;ea6b7;ea7b0w1;p;ph7f9;ph3f0;ph5");
                Kit.told(x, 1, "y:[y*9999*9999-w*w*w]/[l-l]+f/c-d");
                Kit.told(x, 2, "0123456701234567");
                x.law(run % 3 - 1);
            }
            for (int call = 0; call < 440; call++) {
                wild(x, dice);
            }
            Kit.same("run " + run, true, true);
        }
        Kit.close();
    }

    private static int any(Kit.Dice dice) {
        return dice.oneIn(3) ? dice.between(-1, 8) : WILD[dice.roll(WILD.length)];
    }

    private static void wild(WallChapels x, Kit.Dice dice) {
        int kind = dice.roll(KINDS);
        int[] a = {any(dice), any(dice), any(dice), any(dice), any(dice)};
        String call = "call " + kind + " " + java.util.Arrays.toString(a);
        try {
            if (kind < 22) {
                first(x, kind, a);
            } else {
                second(x, kind, a);
            }
        } catch (NoSuchElementException e) {
            Kit.same(call + " throws " + e, kind, 6);
        } catch (RuntimeException e) {
            Kit.same(call + " throws " + e, 1, 0);
        }
    }

    private static long first(WallChapels x, int kind, int[] a) {
        switch (kind) {
            case 0: return x.feed(a[0], a[1], a[2], a[3], a[4]);
            case 1: return x.end(a[0]) ? 1 : 0;
            case 2: return x.fault(a[0]);
            case 3: return x.text(a[0]);
            case 4: return x.corner(a[0], a[1]);
            case 5: return x.street(a[0], a[1]);
            case 6: return x.walker(a[0], a[1]);
            case 7: return x.law(a[0]) ? 1 : 0;
            case 8: return x.council(a[0]) ? 1 : 0;
            case 9: return x.day();
            case 10: return x.wall(a[0]);
            case 11: return x.lamp(a[0]);
            case 12: return x.moves(a[0], a[1]);
            case 13: return x.preach(a[0]);
            case 14: return x.give(a[0]);
            case 15: return x.years(a[0], (long) a[1] << 32 ^ a[2]);
            case 16: return x.undo();
            case 17: return x.log(a[0], a[1]);
            case 18: return x.walk(a[0], a[1]);
            case 19: return x.check(a[0], a[1]);
            case 20: return x.far(a[0], a[1]);
            default: return x.way(a[0], a[1]);
        }
    }

    private static long second(WallChapels x, int kind, int[] a) {
        switch (kind) {
            case 22: return x.feast(a[0], a[1]);
            case 23: return x.soon(a[0]);
            case 24: return x.worn(a[0], a[1]);
            case 25: return x.seen(a[0], a[1] > 0);
            case 26: return x.knocked(a[0]);
            case 27: return x.ask();
            case 28: return x.walls(a[0]);
            case 29: return x.parted(a[0], a[1]);
            case 30: return x.draws(a[0], a[1]);
            case 31: return x.goes(a[0]);
            case 32: return x.goers(a[0]);
            case 33: return x.game(a[0], a[1], a[2], a[3], a[4]);
            case 34: return x.rests(a[0], a[1], a[2]);
            case 35: return x.odds(a[0], a[1]);
            case 36: return x.shares(a[0], a[1]);
            case 37: return x.all(a[0]);
            case 38: return x.around(a[0], a[1]);
            case 39: return x.image();
            case 40: return x.back();
            case 41: return x.count(a[0]);
            default: return x.years(a[0] & 15, a[1]);
        }
    }
}
