/** The FAULT of valid texts, cut and spoiled texts, against the model that reads them another way. */
public final class FaultTest {
    private static final String[] SIGNS = {
        "sepnkabywhf;0123456789  ", "y:y:wflcd+-*/[]()!&|=<>?;0123456789  ", "0123456701234567890 8"};

    public static void main(String[] args) {
        int runs = args.length > 0 ? Integer.parseInt(args[0]) : 6000;
        Kit.Dice dice = new Kit.Dice(77);
        for (int run = 0; run < runs; run++) {
            int sort = run % 3;
            String text = valid(dice, sort);
            if (text.length() <= 240) {
                both(sort, text);
                both(sort, text.substring(0, dice.roll(text.length() + 1)));
                for (int i = 0; i < 3; i++) {
                    text = spoiled(dice, sort, text);
                    both(sort, text.substring(0, Math.min(240, text.length())));
                }
            }
        }
        deep();
        Kit.close();
    }

    private static void both(int sort, String text) {
        int due = sort == 0 ? TextModel.townFault(text) : sort == 1 ? TextModel.lawFault(text) : TextModel.walkFault(text);
        WallChapels x = new WallChapels();
        Kit.tape(x, text);
        Kit.same("fault(" + sort + ") of '" + text + "'", x.fault(sort), due);
        // A text with a fault is refused and the tape stays; else it is taken and the tape is empty.
        boolean taken = x.text(sort) != -1;
        Kit.same("text(" + sort + ") of '" + text + "'", taken, due == -1);
        Kit.same("count(5) behind '" + text + "'", x.count(5), taken ? 0 : text.length());
    }

    private static String valid(Kit.Dice dice, int sort) {
        StringBuilder b = new StringBuilder();
        if (sort == 1) {
            return new LawModel(dice, dice.roll(4)).text;
        }
        if (sort == 2) {
            for (int i = dice.between(1, 16); i > 0; i--) {
                b.append(dice.roll(8)).append(dice.oneIn(5) ? " " : "");
            }
            return b.toString();
        }
        int streets = dice.between(1, dice.oneIn(4) ? 12 : 4);
        int walkers = dice.between(1, 4);
        b.append(dice.oneIn(2) ? "sn" + dice.between(2, 8) : "s").append(dice.oneIn(2) ? "k" + dice.roll(100) : "");
        for (int i = 0; i < streets; i++) {
            b.append(gap(dice)).append(";").append(gap(dice)).append("e").append(dice.oneIn(2) ? "y" + dice.between(1, 40) : "");
            b.append(dice.oneIn(3) ? "a0" + gap(dice) + "b1" : dice.oneIn(3) ? "b" + dice.between(1, 3) : "");
            b.append(gap(dice)).append(dice.oneIn(2) ? "w" + dice.roll(2) : "");
        }
        for (int i = 0; i < walkers; i++) {
            b.append(";p").append(gap(dice)).append(dice.oneIn(2) ? "f" + dice.roll(10) : "").append(dice.oneIn(2) ? "h" + dice.roll(3) : "");
        }
        return b.toString();
    }

    private static String gap(Kit.Dice dice) {
        return dice.oneIn(6) ? " " : "";
    }

    private static String spoiled(Kit.Dice dice, int sort, String text) {
        int place = dice.roll(text.length() + 1);
        String signs = SIGNS[sort];
        char sign = dice.oneIn(20) ? (char) dice.between(1, 255) : signs.charAt(dice.roll(signs.length()));
        switch (dice.roll(3)) {
            case 0: return text.substring(0, place) + sign + text.substring(place);
            case 1: return text.substring(0, place) + (place < text.length() ? text.substring(place + 1) : "");
            default: return text.substring(0, place) + sign + (place < text.length() ? text.substring(place + 1) : "");
        }
    }

    /** All short nests of the three signs, with one sign too many among them. */
    private static void deep() {
        for (int pick = 0; pick < 3 * 3 * 3 * 3 * 3 * 3 * 3; pick++) {
            StringBuilder b = new StringBuilder("y:");
            StringBuilder close = new StringBuilder();
            int rest = pick;
            for (int i = 0; i < 7; i++) {
                char sign = "![(".charAt(rest % 3);
                rest /= 3;
                b.append(sign);
                close.insert(0, sign == '[' ? "]" : sign == '(' ? ")" : "");
            }
            both(1, b + "y" + close + "=1?1");
            both(1, b.substring(0, 8) + "y" + close + "=1?1");
        }
    }
}
