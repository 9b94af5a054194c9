/**
 * The bounds of the texts and of the tape, sentence by sentence: Terms, paragraph 1, and promises 2 to 5.
 * Where a row of numbers or letters is short, all of it is tried.
 */
public final class TextBoundsTest {
    private static final int NONE = WallChapels.NONE;
    private static final String BLANKS = "   ";

    public static void main(String[] args) {
        tapeByPlaces();
        tapeFull();
        numbersOfTowns();
        thirdDigits();
        lettersThatWereThere();
        lettersOfOthers();
        clausesOfTowns();
        whatATownLacks();
        withoutItems();
        withoutItemsBehindAnotherTown();
        lawClauses();
        lawSigns();
        lawEndsTooEarly();
        lawDigits();
        lawDepth();
        lawNumbers();
        lawCuts();
        lawConditions();
        walkBounds();
        blanks();
        blanksAlone();
        otherBytes();
        fourOfEach();
        refusedTexts();
        Kit.close();
    }

    private static void is(String what, long got, long due) {
        Kit.same(what, got, due);
    }

    private static void fault(int sort, String text, int due) {
        is("fault(" + sort + ") of '" + text + "'", Kit.faultOf(sort, text), due);
    }

    private static int[] words(int... places) {
        int[] words = new int[5];
        for (int place : places) {
            words[place / 4] |= 200 << 24 - 8 * (place % 4);
        }
        return words;
    }

    private static int feed(WallChapels x, int[] w) {
        return x.feed(w[0], w[1], w[2], w[3], w[4]);
    }

    private static WallChapels filled(int bytes) {
        WallChapels x = new WallChapels();
        Kit.tape(x, "7".repeat(bytes));
        return x;
    }

    // 2: each of the twenty places counts, in its order
    private static void tapeByPlaces() {
        for (int place = 0; place < 20; place++) {
            is("2: a byte at " + place, feed(filled(0), words(place)), 1);
            is("2: the last byte at " + place, feed(filled(239), words(place)), 240);
            WallChapels full = filled(240);
            is("2: one too many at " + place, feed(full, words(place)), NONE);
            is("2: full as it was", full.count(5), 240);
            for (int other = 0; other < place; other++) {
                WallChapels x = filled(239);
                is("2: two too many at " + other + ", " + place, feed(x, words(other, place)), NONE);
                is("2: none of the two is there", x.count(5), 239);
            }
        }
        String sixteen = "0123456776543210";
        for (int start = 0; start <= 4; start++) {
            int[] w = new int[5];
            for (int i = 0; i < 16; i++) {
                w[(start + i) / 4] |= sixteen.charAt(i) << 24 - 8 * ((start + i) % 4);
            }
            WallChapels x = new WallChapels();
            is("2: sixteen from " + start, feed(x, w), 16);
            x.text(2);
            for (int i = 0; i < 16; i++) {
                is("2: sixteen from " + start + " in order", x.walk(0, i), sixteen.charAt(i) - '0');
            }
        }
    }

    // 2, 3: empty and full
    private static void tapeFull() {
        WallChapels x = filled(220);
        is("2: twenty fit", x.feed(-1, -1, -1, -1, -1), 240);
        WallChapels y = filled(221);
        is("2: twenty are one too many", y.feed(-1, -1, -1, -1, -1), NONE);
        is("2: nineteen fit", y.feed(-1, -1, -1, -1, -256), 240);
        is("2: nothing fits always", y.feed(0, 0, 0, 0, 0), 240);
        is("3: all of a full one", y.end(240) ? 1 : 0, 1);
        is("3: more than a full one", y.end(241) ? 1 : 0, 0);
        is("3: but one", y.end(239) ? 1 : 0, 1);
        is("3: what was cut is gone", y.end(240) ? 1 : 0, 0);
        is("3: none", y.end(0) ? 1 : 0, 1);
        is("3: empty", y.count(5), 0);
        // a law of the tape's full length
        WallChapels z = new WallChapels();
        is("4: a full one", Kit.told(z, 1, "y:" + "y+".repeat(118) + "1 "), 0);
        is("4: a full one with a fault at its end", Kit.faultOf(1, "y:" + "y+".repeat(119)), 240);
        is("4: a full one with a fault at its last byte", Kit.faultOf(1, "y:" + "y+".repeat(118) + "1&"), 239);
        is("4: blanks alone", Kit.faultOf(2, " ".repeat(240)), 240);
        is("4: blanks, then a town", Kit.faultOf(0, " ".repeat(237) + "e;p"), NONE);
    }

    /** A text that ends in a clause of such a head, and is a town if nothing is wrong there. */
    private static String ahead(char head) {
        return head == 's' ? "e;p;s" : head == 'e' ? "p;sn8;e" : "e;sn8;p";
    }

    private static final String[] ITEMS = {"sn2,8", "sk0,99", "ea0,7", "eb0,7", "ey1,40", "ew0,1", "ph0,7", "pf0,9"};

    private static int least(String item) {
        return Integer.parseInt(item.substring(2, item.indexOf(',')));
    }

    private static int most(String item) {
        return Integer.parseInt(item.substring(item.indexOf(',') + 1));
    }

    // one or two digits; a number out of bounds is wrong at its last digit
    private static void numbersOfTowns() {
        for (String item : ITEMS) {
            for (int v = 0; v <= 99; v++) {
                for (int form = v < 10 ? 0 : 1; form < 2; form++) {
                    String text = ahead(item.charAt(0)) + item.charAt(1) + (form == 1 && v < 10 ? "0" : "") + v;
                    boolean within = v >= least(item) && v <= most(item);
                    boolean loop = item.startsWith("ea") && v == 1 || item.startsWith("eb") && v == 0;
                    fault(0, text, !within ? text.length() - 1 : loop ? text.length() : NONE);
                    fault(0, text + " ", !within ? text.length() - 1 : loop ? text.length() + 1 : NONE);
                    fault(0, text + "q", !within ? text.length() - 1 : text.length());
                }
            }
        }
    }

    // a third digit itself, whatever stands ahead of it
    private static void thirdDigits() {
        for (String item : ITEMS) {
            for (int v = 0; v <= 99; v++) {
                String two = ahead(item.charAt(0)) + item.charAt(1) + v / 10 + v % 10;
                fault(0, two + "0", two.length());
                fault(0, two + "9;", two.length());
                // Not within the number: no digit of it, but no letter either.
                if (v >= least(item) && v <= most(item)) {
                    fault(0, two + " 1", two.length() + 1);
                }
            }
            String letter = ahead(item.charAt(0)) + item.charAt(1);
            fault(0, letter, letter.length());
            fault(0, letter + BLANKS, letter.length() + 3);
            fault(0, letter + ";", letter.length());
            fault(0, letter + "-1", letter.length());
            fault(0, letter + " " + most(item), item.startsWith("eb0") || most(item) > 0 ? NONE : letter.length());
            // The sign behind 9 is no digit.
            fault(0, letter + least(item) + ":", letter.length() + 1);
            fault(0, letter + least(item) + "/", letter.length() + 1);
        }
    }

    // a letter, each once at most in a clause
    private static void lettersThatWereThere() {
        String[] rows = {"sn8k7", "ea2b3y4w1", "ph1f2"};
        for (String row : rows) {
            String text = ahead(row.charAt(0)) + row.substring(1);
            fault(0, text, NONE);
            for (int i = 1; i < row.length(); i += 2) {
                fault(0, text + row.charAt(i) + "1", text.length());
                fault(0, text + " " + row.charAt(i), text.length() + 1);
                String once = ahead(row.charAt(0)) + row.substring(i, i + 2);
                fault(0, once + row.charAt(i) + row.charAt(i + 1), once.length());
            }
        }
        fault(0, "ea0b1;ea1b0;p;p", NONE);
        fault(0, "w", 0);
    }

    private static void lettersOfOthers() {
        String[] letters = {"snk", "eabyw", "phf"};
        String all = "nkabywhfsepcdlx";
        for (String own : letters) {
            String text = ahead(own.charAt(0));
            for (int i = 0; i < all.length(); i++) {
                char letter = all.charAt(i);
                if (own.indexOf(letter) < 1) {
                    fault(0, text + letter + "1", text.length());
                }
            }
        }
    }

    // s one at most, e 1 .. 12, p 1 .. 4, in any order, with ; between
    private static void clausesOfTowns() {
        fault(0, "s;e;p", NONE);
        fault(0, "p;s;e", NONE);
        fault(0, "p;e;s", NONE);
        fault(0, "e;p;s;s", 6);
        fault(0, "s s", 2);
        fault(0, "s;e;p;e;p;s", 10);
        fault(0, "e".repeat(2), 1);
        fault(0, ";e;p", 0);
        fault(0, "e;;p", 2);
        fault(0, "e;p;", 4);
        fault(0, "e;p; ", 5);
        for (int streets = 1; streets <= 13; streets++) {
            for (int walkers = 1; walkers <= 5; walkers++) {
                String text = "e;".repeat(streets) + "p;".repeat(walkers) + "s";
                fault(0, text, streets > 12 ? 24 : walkers > 4 ? 2 * streets + 8 : NONE);
            }
        }
        for (char head = 1; head < 256; head++) {
            if (head != ' ' && head != 's' && head != 'e' && head != 'p') {
                fault(0, head + ";e;p", 0);
                fault(0, "e;p;" + head, 4);
            }
        }
    }

    // without a STREET or a WALKER, with a CORNER that there is not, a STREET from a CORNER to itself: the length
    private static void whatATownLacks() {
        fault(0, "e", 1);
        fault(0, "p", 1);
        fault(0, "s", 1);
        fault(0, "s;e", 3);
        fault(0, "p;s ", 4);
        for (int n = 2; n <= 8; n++) {
            for (int v = 0; v <= 7; v++) {
                String rules = "sn" + n;
                String a = rules + ";p;ea" + v + (v == 1 ? "b0" : "");
                fault(0, a, v < n ? NONE : a.length());
                String b = rules + ";p;eb" + v + (v == 0 ? "a1" : "");
                fault(0, b, v < n ? NONE : b.length());
                String h = "ph" + v + ";e;" + rules;
                fault(0, h, v < n ? NONE : h.length());
                String loop = rules + ";p;ea" + v + "b" + v + ";e";
                fault(0, loop, loop.length());
            }
        }
        // of several the last, too
        fault(0, "e;e;ea1;p", 9);
        fault(0, "e;p;p;ph4", 9);
        fault(0, "e;p;p;ph3", NONE);
    }

    // 4 without n, 20 without k, 0, 1, 5, 0 without a, b, y, w, 0, 4 without h, f
    private static void withoutItems() {
        WallChapels x = Kit.town("e;p;s");
        plain(x, "plain");
        WallChapels y = Kit.town("p;e");
        plain(y, "without s");
        WallChapels z = Kit.town("sn8;e;p");
        is("n alone", z.count(0), 8);
        is("k without", z.count(8), 20);
        WallChapels w = Kit.town("sk0;e;p");
        is("k 0", w.count(8), 0);
        is("n without", w.count(0), 4);
        is("k 99", Kit.town("sk99;e;p").count(8), 99);
        is("n 2", Kit.town("sn2;e;p").count(0), 2);
    }

    private static void plain(WallChapels x, String what) {
        int[] counts = {4, 1, 1};
        int[] street = {0, 1, 5, 0};
        int[] walker = {0, 4};
        for (int i = 0; i < 4; i++) {
            is(what + ": of the street " + i, x.street(0, i), street[i]);
            is(what + ": count " + i, i < 3 ? x.count(i) : x.count(8), i < 3 ? counts[i] : 20);
        }
        is(what + ": HOME", x.walker(0, 0), walker[0]);
        is(what + ": FAITH", x.walker(0, 1), walker[1]);
        is(what + ": open at 0", x.corner(0, 2), 1);
        is(what + ": open at 1", x.corner(1, 2), 1);
        is(what + ": open at 2", x.corner(2, 2), 0);
        is(what + ": open at 3", x.corner(3, 2), 0);
    }

    /** What another town or a text with a fault told is not there without its item. */
    private static void withoutItemsBehindAnotherTown() {
        WallChapels x = Kit.town("sn8k77;ea7b6y40w1;ea0b5;ea3b4;ph7f9;ph6f8;p");
        is("another town", Kit.told(x, 0, "e;p"), 1);
        plain(x, "behind another");
        Kit.tape(x, "sn7k66;ea6b5y39w1;ph6f7;pq");
        is("a fault", x.fault(0), 25);
        plain(x, "behind a fault");
        is("a town again", Kit.told(x, 0, "p;e"), 1);
        plain(x, "behind a fault and told");
        // the streets of another town lead nowhere in this one
        is("other streets", Kit.told(x, 0, "ea2b3;p"), 1);
        int[] open = {0, 0, 1, 1};
        for (int c = 0; c < 4; c++) {
            is("other streets at " + c, x.corner(c, 2), open[c]);
        }
        is("other streets' chapels", x.all(0), 12);
        is("streets far off", Kit.told(x, 0, "sn8k99;ea4b5;ea6b7;ea7b4;p;ph7;ph6;ph5"), 3);
        for (int c = 0; c < 8; c++) {
            x.lamp(c);
            x.lamp(c);
        }
        x.day();
        is("a MARK far off", x.corner(5, 0), 1);
        is("a MARK farther off", x.corner(6, 0), 2);
        is("streets nearer", Kit.told(x, 0, "sn8;e;p;p;p;p"), 1);
        for (int c = 0; c < 8; c++) {
            is("no MARK at " + c, x.corner(c, 0), 0);
            is("no LAMPS at " + c, x.corner(c, 1), 0);
            is("open at " + c, x.corner(c, 2), c < 2 ? 1 : 0);
        }
        for (int w = 0; w < 4; w++) {
            is("HOME of " + w, x.walker(w, 0), 0);
        }
    }

    // CLAUSES with ; between, one at least
    private static void lawClauses() {
        fault(1, "", 0);
        fault(1, ";", 0);
        fault(1, "y:1", NONE);
        fault(1, "y:1;", 4);
        fault(1, "y:1;;y:1", 4);
        fault(1, "y:1;y", 5);
        fault(1, "y:1;y:", 6);
        fault(1, "y1", 1);
        fault(1, "y;1", 1);
        fault(1, "yy:1", 1);
        fault(1, "w:1", 0);
        fault(1, "y:1y:1", 3);
        fault(1, "y:1,y:1", 3);
        fault(1, "y:1;".repeat(39) + "y:1", NONE);
        fault(1, "y:y;".repeat(60), 240);
        fault(1, "y:y;".repeat(59) + "y:yy", 239);
    }

    // which sign may stand where
    private static void lawSigns() {
        String atoms = "0123456789ywflcd[";
        String behindFirst = "+-*/=<>;";
        String behindCondition = "+-*/&|?";
        for (char sign = 1; sign < 256; sign++) {
            if (sign == ' ') {
                continue;
            }
            boolean atom = atoms.indexOf(sign) >= 0;
            boolean digit = sign >= '0' && sign <= '9';
            is("an atom is " + sign, Kit.faultOf(1, "y:1+" + sign) == 4, !atom);
            is("an atom of a term is " + sign, Kit.faultOf(1, "y:1*" + sign) == 4, !atom);
            is("behind = stands " + sign, Kit.faultOf(1, "y:1=" + sign) == 4, !atom);
            is("behind ? stands " + sign, Kit.faultOf(1, "y:1=1?" + sign) == 6, !atom);
            is("behind [ stands " + sign, Kit.faultOf(1, "y:[" + sign) == 3, !atom);
            boolean unit = atom || sign == '!' || sign == '(';
            is("behind : stands " + sign, Kit.faultOf(1, "y:" + sign) == 2, !unit);
            is("behind & stands " + sign, Kit.faultOf(1, "y:1=1&" + sign) == 6, !unit);
            is("behind | stands " + sign, Kit.faultOf(1, "y:1=1|" + sign) == 6, !unit);
            is("behind ! stands " + sign, Kit.faultOf(1, "y:!" + sign) == 3, !unit);
            is("behind ( stands " + sign, Kit.faultOf(1, "y:(" + sign) == 3, !unit);
            is("behind a first sum stands " + sign, Kit.faultOf(1, "y:y" + sign) == 3, behindFirst.indexOf(sign) < 0);
            is("behind a number stands " + sign, Kit.faultOf(1, "y:1" + sign) == 3, behindFirst.indexOf(sign) < 0 && !digit);
            is("behind two sums stands " + sign, Kit.faultOf(1, "y:1=y" + sign) == 5, behindCondition.indexOf(sign) < 0);
            is("within ( behind a sum stands " + sign, Kit.faultOf(1, "y:(y" + sign) == 4, "+-*/=<>".indexOf(sign) < 0);
            is("within ( behind two sums stands " + sign, Kit.faultOf(1, "y:(1=y" + sign) == 6, "+-*/&|)".indexOf(sign) < 0);
            is("behind ) stands " + sign, Kit.faultOf(1, "y:(1=1)" + sign) == 7, "&|?".indexOf(sign) < 0);
            is("within [ stands " + sign, Kit.faultOf(1, "y:[y" + sign) == 4, "+-*/]".indexOf(sign) < 0);
            is("behind ] stands " + sign, Kit.faultOf(1, "y:[y]" + sign) == 5, behindFirst.indexOf(sign) < 0);
            is("behind the sum of a condition stands " + sign, Kit.faultOf(1, "y:1=1?y" + sign) == 7, "+-*/;".indexOf(sign) < 0);
        }
    }

    private static void is(String what, boolean got, boolean due) {
        Kit.same(what, got, due);
    }

    /** Every start of these ends too early, but for those that are laws themselves. */
    private static void lawEndsTooEarly() {
        String[] texts = {"y:y+w*f", "y:y=w?f", "y:!y<w?f", "y:(y>w|y<w&f=l)?[c+d]/y", "y:[y-w]*f>[l]&!(y=w)?[[y]]", "y:y>w?f;y:l"};
        String[] laws = {
            "y:y y:y+w y:y+w*f", "y:y y:y=w?f", "y:!y<w?f", "y:(y>w|y<w&f=l)?[c+d] y:(y>w|y<w&f=l)?[c+d]/y",
            "y:[y-w] y:[y-w]*f y:[y-w]*f>[l]&!(y=w)?[[y]]", "y:y y:y>w?f y:y>w?f;y:l"};
        for (int i = 0; i < texts.length; i++) {
            for (int cut = 0; cut <= texts[i].length(); cut++) {
                String text = texts[i].substring(0, cut);
                boolean whole = !text.isEmpty() && (" " + laws[i] + " ").contains(" " + text + " ");
                fault(1, text, whole ? NONE : cut);
                fault(1, text + BLANKS, whole ? NONE : cut + 3);
            }
        }
    }

    // a number (1 to 4 digits); a fifth one in a LAW itself
    private static void lawDigits() {
        String[][] around = {{"y:", ""}, {"y:", "=1?1"}, {"y:1<", "?1"}, {"y:1=1?", ""}, {"y:1+", "*2"}, {"y:[", "]"}, {"y:!(1=", ")?1"},
            {"y:1;y:2*", ""}};
        String[] numbers = {"0", "9", "00", "99", "000", "999", "0000", "9999", "0001"};
        for (String[] text : around) {
            for (String number : numbers) {
                fault(1, text[0] + number + text[1], NONE);
            }
            fault(1, text[0] + "12345" + text[1], text[0].length() + 4);
            fault(1, text[0] + "00000" + text[1], text[0].length() + 4);
            fault(1, text[0] + "99999", text[0].length() + 4);
            fault(1, text[0] + "1234 5" + text[1], text[0].length() + 5);
        }
    }

    // At most six of ( [ ! within one another: a seventh at it
    private static void lawDepth() {
        String[][] around = {{"y:", ""}, {"y:1=1?", ""}, {"y:1+", ""}, {"y:1*", ""}, {"y:1=", "?1"}, {"y:1=1&1>", "?1"}, {"y:[[1]]+", ""},
            {"y:((1=1))&1=", "?1"}, {"y:!!!!!!1=1|1=", "?1"}, {"y:[[[[[[1]]]]]];y:", ""}, {"y:[[[[[[1]]]]]]=1?", ""}};
        for (String[] text : around) {
            fault(1, text[0] + "[[[[[[1]]]]]]" + text[1], NONE);
            fault(1, text[0] + "[[[[[[[1]]]]]]]" + text[1], text[0].length() + 6);
            fault(1, text[0] + "[[[[[[1+[1]]]]]]]" + text[1], text[0].length() + 8);
            fault(1, text[0] + "[[[[[[1]]*[[1]]]]]]" + text[1], NONE);
            fault(1, text[0] + "[[[[[[1]]*[[[1]]]]]]]" + text[1], text[0].length() + 12);
        }
        fault(1, "y:((((((1=1))))))?1", NONE);
        fault(1, "y:(((((((1=1)))))))?1", 8);
        fault(1, "y:!!!!!!1=1?1", NONE);
        fault(1, "y:!!!!!!!1=1?1", 8);
        fault(1, "y:!!!!!!(1=1)?1", 8);
        fault(1, "y:!!!!!![1]=1?1", 8);
        fault(1, "y:!!!!!![", 8);
        fault(1, "y:!!!!!1=[1]?1", NONE);
        fault(1, "y:!!!!!!1=[1]?1", 10);
        fault(1, "y:((((((1=[1]))))))?1", 10);
        fault(1, "y:((((((!1=1))))))?1", 8);
        fault(1, "y:(((((!1=1&[1]=1)))))?1", NONE);
        fault(1, "y:(((((!1=[1]&1=1)))))?1", 10);
        fault(1, "y:1=1&((((((1=1))))))|((((((1=1))))))?1", NONE);
        fault(1, "y:1=1&(((((((1=1)))))))?1", 12);
        fault(1, "y:1=1|!!!!!!!1=1?1", 12);
        for (char joint : new char[] {'&', '|'}) {
            fault(1, "y:(1=1" + joint + "(((((1=1))))))?1", NONE);
            fault(1, "y:(1=1" + joint + "((((((1=1)))))))?1", 12);
            fault(1, "y:((1=1" + joint + "1=1" + joint + "!!!!!1=1))?1", 16);
            fault(1, "y:!(1=1" + joint + "1=[[[[[1]]]]])?1", 14);
        }
        fault(1, "y:(!(!(!1=1)))?1", NONE);
        fault(1, "y:(!(!(!(1=1))))?1", 8);
    }

    private static void worth(String law, int due) {
        WallChapels x = Kit.town("e y7;e a2b3;p f3;s k99");
        Kit.hold(x, law);
        is("worth of " + law, x.draws(0, 1), due);
    }

    // Behind each sign numbers are within -1,000,000 .. 1,000,000
    private static void lawNumbers() {
        String million = "[1000*1000]";
        String below = "[0-1000*1000]";
        worth("y:" + million + "-9999*100-50", 50);
        worth("y:" + million + "/9999", 99);
        worth("y:1000*1000=" + million + "?1;y:2", 1);
        worth("y:1001*1000=" + million + "?1;y:2", 1);
        worth("y:9999*9999=" + million + "?1;y:2", 1);
        worth("y:999*1001=" + million + "?1;y:2", 2);
        worth("y:" + million + "+1=" + million + "?1;y:2", 1);
        worth("y:" + million + "+1-1=" + million + "-1?1;y:2", 1);
        worth("y:" + million + "-1<" + million + "?1;y:2", 1);
        worth("y:" + million + "-1+1=" + million + "?1;y:2", 1);
        worth("y:" + below + "-1=" + below + "?1;y:2", 1);
        worth("y:" + below + "-1+1=" + below + "+1?1;y:2", 1);
        worth("y:" + below + "+1>" + below + "?1;y:2", 1);
        worth("y:" + below + "+1-1=" + below + "?1;y:2", 1);
        worth("y:" + below + "*2=" + below + "?1;y:2", 1);
        worth("y:" + below + "*" + below + "=" + million + "?1;y:2", 1);
        worth("y:" + million + "*" + million + "=" + million + "?1;y:2", 1);
        worth("y:" + million + "*" + below + "=" + below + "?1;y:2", 1);
        worth("y:[0-1]*" + million + "=" + below + "?1;y:2", 1);
        // held behind each sign, not at the end alone
        worth("y:9999*9999*0+7", 7);
        worth("y:9999*9999/9999/100", 1);
        worth("y:" + million + "+" + million + "-" + million + "-" + million + "+5", 0 - 99);
        worth("y:" + million + "+" + million + "-" + million + "+5", 5);
        // held within -99 .. 99
        worth("y:98", 98);
        worth("y:99", 99);
        worth("y:100", 99);
        worth("y:" + million, 99);
        worth("y:0-98", -98);
        worth("y:0-99", -99);
        worth("y:0-100", -99);
        worth("y:" + below, -99);
    }

    // / cuts towards 0, by 0 gives 0
    private static void lawCuts() {
        worth("y:7/2", 3);
        worth("y:[0-7]/2", -3);
        worth("y:7/[0-2]", -3);
        worth("y:[0-7]/[0-2]", 3);
        worth("y:1/2", 0);
        worth("y:[0-1]/2", 0);
        worth("y:8/[0-1]", -8);
        worth("y:7/0", 0);
        worth("y:0/0", 0);
        worth("y:[0-7]/0", 0);
        worth("y:7/l+3", 3);
        worth("y:7/[1-1]*5+1", 1);
        worth("y:0-7/2", -3);
        worth("y:9-7/2*2", 3);
    }

    // the SUM of the first CLAUSE whose CONDITION holds (or has none), 0 without
    private static void lawConditions() {
        String[] relations = {"=", "<", ">"};
        for (int r = 0; r < 3; r++) {
            for (int left = 0; left < 3; left++) {
                boolean holds = r == 0 ? left == 1 : r == 1 ? left < 1 : left > 1;
                String unit = left + relations[r] + "1";
                worth("y:" + unit + "?5;y:6", holds ? 5 : 6);
                worth("y:!" + unit + "?5;y:6", holds ? 6 : 5);
                worth("y:!!" + unit + "?5;y:6", holds ? 5 : 6);
                worth("y:!(" + unit + ")?5;y:6", holds ? 6 : 5);
                worth("y:" + unit + "?5", holds ? 5 : 0);
                worth("y:" + unit + "&" + unit + "?5;y:6", holds ? 5 : 6);
                worth("y:" + unit + "|" + unit + "?5;y:6", holds ? 5 : 6);
            }
        }
        String[] truths = {"1=2", "1=1"};
        for (int bits = 0; bits < 8; bits++) {
            String a = truths[bits & 1];
            String b = truths[bits >> 1 & 1];
            String c = truths[bits >> 2];
            boolean p = (bits & 1) != 0;
            boolean q = (bits & 2) != 0;
            boolean r = (bits & 4) != 0;
            worth("y:" + a + "|" + b + "&" + c + "?5;y:6", p || q && r ? 5 : 6);
            worth("y:" + a + "&" + b + "|" + c + "?5;y:6", p && q || r ? 5 : 6);
            worth("y:(" + a + "|" + b + ")&" + c + "?5;y:6", (p || q) && r ? 5 : 6);
            worth("y:!" + a + "&" + b + "|!" + c + "?5;y:6", !p && q || !r ? 5 : 6);
            worth("y:" + a + "?1;y:" + b + "?2;y:" + c + "?3", p ? 1 : q ? 2 : r ? 3 : 0);
        }
        worth("y:1=2?5;y:6;y:7", 6);
        // nothing of a clause whose condition does not hold counts, whatever stands in it
        for (String sum : new String[] {"y+5", "w+5", "f+5", "l+5", "c+5", "d+5", "5*[y-2]/3", "[[[5]]]+y", "y", "0"}) {
            worth("y:1=2?" + sum + ";y:7", 7);
            worth("y:1=2?" + sum + ";y:1=2&y>f|c<d?" + sum + ";y:7", 7);
            worth("y:1=2?" + sum, 0);
        }
        worth("y:6;y:1=1?5", 6);
    }

    // 1 to 16 CORNERS (a digit 0 .. 7 each), a 17th at it
    private static void walkBounds() {
        for (int sign = 1; sign < 256; sign++) {
            char c = (char) sign;
            if (c != ' ') {
                boolean corner = c >= '0' && c <= '7';
                fault(2, "" + c, corner ? NONE : 0);
                fault(2, "01" + c, corner ? NONE : 2);
                fault(2, "0123456701234567" + c, 16);
                fault(2, "01234567 01234567 " + c, 18);
            }
        }
        for (int length = 1; length <= 17; length++) {
            String text = "7".repeat(length);
            fault(2, text, length <= 16 ? NONE : 16);
            fault(2, "7 ".repeat(length), length <= 16 ? NONE : 32);
            WallChapels x = new WallChapels();
            is("20: of " + length, Kit.told(x, 2, text), length <= 16 ? 0 : NONE);
            is("20: how many of " + length, x.walk(0, NONE), length <= 16 ? length : NONE);
        }
        fault(2, "", 0);
    }

    // Blanks may stand between all signs of these, not within numbers
    private static void blanks() {
        String[] texts = {
            "s n 5 k 20 ; e a 0 b 1 y 4 w 1 ; p h 0 f 4", "y : ! ( y = 1 | w < 2 & f > 3 ) ? [ l + c ] * d - 7 / 2 ; y : 8", "0 1 2 3 4 5 6 7"};
        for (int sort = 0; sort < 3; sort++) {
            String text = texts[sort];
            fault(sort, text, NONE);
            fault(sort, BLANKS + text + BLANKS, NONE);
            fault(sort, text.replace(" ", ""), NONE);
            fault(sort, text.replace(" ", "  "), NONE);
            fault(sort, text.replace(" ", "\t"), 1);
            fault(sort, text.replace(" ", "\n"), 1);
        }
        fault(0, "e;p;sn 4 2", 9);
        fault(0, "e;p;sk2 0", 8);
        fault(0, "e;p;sk 20", NONE);
        fault(0, "ey 41;p", 4);
        fault(0, "ey4 1;p", 4);
        fault(0, "ey0 ;p", 2);
        fault(0, "ea 8 ;p", 3);
        fault(1, "y:1 2", 4);
        fault(1, "y:123 4", 6);
        fault(1, "y:1 2345", 4);
        WallChapels x = Kit.town(texts[0]);
        is("with blanks: n", x.count(0), 5);
        is("with blanks: y", x.street(0, 2), 4);
        is("with blanks: w", x.street(0, 3), 1);
    }

    private static void blanksAlone() {
        for (int sort = 0; sort < 3; sort++) {
            fault(sort, "", 0);
            fault(sort, " ", 1);
            fault(sort, BLANKS, 3);
        }
    }

    /** Bytes that are no sign at all, and such as stand next to a digit or a letter. */
    private static void otherBytes() {
        for (int sign = 128; sign < 256; sign++) {
            fault(0, "e;p" + (char) sign, 3);
            fault(1, "y:y" + (char) sign, 3);
            fault(2, "0" + (char) sign, 1);
        }
        fault(0, "E;P", 0);
        fault(1, "Y:1", 0);
    }

    // LAWS (4 at most), WALKS (4 at most)
    private static void fourOfEach() {
        WallChapels x = new WallChapels();
        for (int i = 0; i < 4; i++) {
            is("5: LAW " + i, Kit.told(x, 1, "y:" + (10 + i)), i);
            is("5: WALK " + i, Kit.told(x, 2, i + "0"), i);
        }
        Kit.tape(x, "y:1");
        is("5: no fault in a fifth LAW", x.fault(1), NONE);
        is("5: a fifth LAW", x.text(1), NONE);
        is("5: LAWS", x.count(3), 4);
        is("5: the TAPE of a fifth LAW", x.count(5), 3);
        Kit.tape(x, "77");
        is("5: a fifth WALK", x.text(2), NONE);
        is("5: WALKS", x.count(4), 4);
        is("5: the TAPE of a fifth WALK", x.count(5), 2);
        is("9: no fifth LAW", x.law(4) ? 1 : 0, 0);
        is("20: no fifth WALK", x.walk(4, NONE), NONE);
        is("5: a TOWN then", Kit.told(x, 0, "e;p"), 1);
        for (int i = 0; i < 4; i++) {
            is("9: LAW " + i, x.law(i) ? 1 : 0, 1);
            is("9: by LAW " + i, x.draws(0, 0), 10 + i);
            is("20: WALK " + i, x.walk(i, 0), i);
        }
    }

    // 5: a FAULT, no such sort: nothing is told, the TAPE stays
    private static void refusedTexts() {
        String[] texts = {"e;p;", "y:", "8"};
        for (int sort = 0; sort < 3; sort++) {
            WallChapels x = new WallChapels();
            Kit.tape(x, texts[sort]);
            is("5: a FAULT of " + sort, x.text(sort), NONE);
            is("5: the TAPE of " + sort, x.count(5), texts[sort].length());
            is("5: no TOWN, LAW, WALK", x.count(0) + x.count(3) + x.count(4), 0);
            // The fault mended, it is told.
            x.end(0);
            Kit.tape(x, sort == 0 ? "e;p" : sort == 1 ? "y:0" : "0");
            is("5: mended " + sort, x.text(sort), sort == 0 ? 1 : 0);
            is("5: empty then " + sort, x.count(5), 0);
        }
        WallChapels y = new WallChapels();
        Kit.tape(y, "e;p");
        is("5: no such sort", y.text(3), NONE);
        is("5: no such sort", y.text(-1), NONE);
        is("5: the TAPE stays", y.count(5), 3);
        is("4: and may be told", y.fault(0), NONE);
        is("4: a FAULT leaves the TAPE", y.count(5), 3);
        is("4: as a LAW", y.fault(1), 0);
        is("4: as a WALK", y.fault(2), 0);
        is("5: told", y.text(0), 1);
    }
}
