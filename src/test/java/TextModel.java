import java.util.ArrayList;
import java.util.HashSet;
import java.util.List;
import java.util.Set;

/**
 * The FAULT of each sort of text by other means than the program's: laws by all stacks of a grammar
 * that a byte leaves possible, towns and walks sign by sign.
 */
final class TextModel {
    private TextModel() {
    }

    // ---- laws: a stack is a text of symbols, the next one first; capitals stand for what is still to be told.
    // Each nest-able symbol is followed by its depth. L law, R more clauses, K clause behind the colon,
    // C condition, c more truths, T truth, t more units, U unit, Q relation, S sum, s more terms,
    // M term, m more atoms, A atom, N number, 0..3 digits (written W X Y Z) that may follow.

    static int lawFault(String text) {
        Set<String> stacks = new HashSet<>();
        stacks.add("L");
        for (int i = 0; i < text.length(); i++) {
            Set<String> after = new HashSet<>();
            for (String stack : stacks) {
                eat(stack, text.charAt(i), after);
            }
            if (after.isEmpty()) {
                return i;
            }
            stacks = after;
        }
        for (String stack : stacks) {
            if (canEnd(stack)) {
                return -1;
            }
        }
        return text.length();
    }

    private static boolean canEnd(String stack) {
        int i = 0;
        while (i < stack.length()) {
            char s = stack.charAt(i);
            if (s == 'c' || s == 't' || s == 's' || s == 'm') {
                i += 2;
            } else if (s == 'R' || s >= 'W' && s <= 'Z') {
                i++;
            } else {
                return false;
            }
        }
        return true;
    }

    private static void eat(String stack, char sign, Set<String> after) {
        if (sign == ' ') {
            String rest = stack;
            while (!rest.isEmpty() && rest.charAt(0) >= 'W' && rest.charAt(0) <= 'Z') {
                rest = rest.substring(1);
            }
            after.add(rest);
            return;
        }
        if (stack.isEmpty()) {
            return;
        }
        char top = stack.charAt(0);
        boolean nests = "CcTtUSsMmA".indexOf(top) >= 0;
        String rest = stack.substring(nests ? 2 : 1);
        char depth = nests ? stack.charAt(1) : '0';
        List<String> ways = expand(top, depth);
        if (ways == null) {
            if (matches(top, sign)) {
                after.add(rest);
            }
            return;
        }
        for (String way : ways) {
            eat(way + rest, sign, after);
        }
    }

    private static boolean matches(char top, char sign) {
        if (top == 'n') {
            return sign >= '0' && sign <= '9';
        }
        if (top == 'v') {
            return "ywflcd".indexOf(sign) >= 0;
        }
        if (top == 'q') {
            return "=<>".indexOf(sign) >= 0;
        }
        if (top == 'p') {
            return "+-".indexOf(sign) >= 0;
        }
        if (top == 'x') {
            return "*/".indexOf(sign) >= 0;
        }
        return top == 'o' ? sign == 'y' : top == sign;
    }

    private static List<String> expand(char top, char d) {
        boolean deeper = d < '6';
        char e = (char) (d + 1);
        List<String> ways = new ArrayList<>();
        switch (top) {
            case 'L': ways.add("o:KR"); return ways;
            case 'R': ways.add(""); ways.add(";o:KR"); return ways;
            case 'K': ways.add("S0"); ways.add("C0?S0"); return ways;
            case 'C': ways.add("T" + d + "c" + d); return ways;
            case 'c': ways.add(""); ways.add("|T" + d + "c" + d); return ways;
            case 'T': ways.add("U" + d + "t" + d); return ways;
            case 't': ways.add(""); ways.add("&U" + d + "t" + d); return ways;
            case 'U':
                ways.add("S" + d + "qS" + d);
                if (deeper) {
                    ways.add("!U" + e);
                    ways.add("(C" + e + ")");
                }
                return ways;
            case 'S': ways.add("M" + d + "s" + d); return ways;
            case 's': ways.add(""); ways.add("pM" + d + "s" + d); return ways;
            case 'M': ways.add("A" + d + "m" + d); return ways;
            case 'm': ways.add(""); ways.add("xA" + d + "m" + d); return ways;
            case 'A':
                ways.add("nZ");
                ways.add("v");
                if (deeper) {
                    ways.add("[S" + e + "]");
                }
                return ways;
            case 'Z': ways.add(""); ways.add("nY"); return ways;
            case 'Y': ways.add(""); ways.add("nX"); return ways;
            case 'X': ways.add(""); ways.add("nW"); return ways;
            case 'W': ways.add(""); return ways;
            default: return null;
        }
    }

    // ---- walks

    static int walkFault(String text) {
        int told = 0;
        for (int i = 0; i < text.length(); i++) {
            char sign = text.charAt(i);
            if (sign == ' ') {
                continue;
            }
            if (sign < '0' || sign > '7' || told == 16) {
                return i;
            }
            told++;
        }
        return told == 0 ? text.length() : -1;
    }

    // ---- towns: one sign after the other, with what it may follow

    static int townFault(String text) {
        int length = text.length();
        String padded = text + ';';
        char clause = 0;
        char letter = 0;
        String seen = "";
        String digits = "";
        int[] clauses = new int[128];
        int corners = 4;
        int a = 0;
        int b = 1;
        int highest = 0;
        boolean loop = false;
        for (int i = 0; i <= length; i++) {
            char sign = padded.charAt(i);
            boolean digit = sign >= '0' && sign <= '9';
            if (letter != 0 && !digits.isEmpty()) {
                if (digit && text.charAt(i - 1) != ' ') {
                    if (digits.length() == 2) {
                        return i;
                    }
                    digits += sign;
                    continue;
                }
                if (digits.length() > 0 && text.charAt(i - 1) != ' ' || i == length) {
                    int value = Integer.parseInt(digits);
                    if (value < least(clause, letter) || value > most(clause, letter)) {
                        return lastDigit(text, i);
                    }
                }
                if (sign == ' ') {
                    continue;
                }
                int value = Integer.parseInt(digits);
                if (letter == 'n') {
                    corners = value;
                } else if (letter == 'a') {
                    a = value;
                } else if (letter == 'b') {
                    b = value;
                } else if (letter == 'h') {
                    highest = Math.max(highest, value);
                }
                letter = 0;
                digits = "";
            }
            if (sign == ' ') {
                continue;
            }
            if (letter != 0) {
                if (!digit) {
                    return i;
                }
                digits += sign;
                continue;
            }
            if (clause == 0) {
                int limit = sign == 's' ? 1 : sign == 'e' ? 12 : sign == 'p' ? 4 : 0;
                if (limit == 0 || i == length || clauses[sign] == limit) {
                    return i;
                }
                clauses[sign]++;
                clause = sign;
                seen = "";
                a = 0;
                b = 1;
                continue;
            }
            if (sign == ';') {
                if (clause == 'e') {
                    highest = Math.max(highest, Math.max(a, b));
                    loop |= a == b;
                }
                clause = 0;
                continue;
            }
            String letters = clause == 's' ? "nk" : clause == 'e' ? "abyw" : "hf";
            if (letters.indexOf(sign) < 0 || seen.indexOf(sign) >= 0) {
                return i;
            }
            seen += sign;
            letter = sign;
        }
        boolean whole = clauses['e'] > 0 && clauses['p'] > 0 && highest < corners && !loop;
        return whole ? -1 : length;
    }

    private static int lastDigit(String text, int end) {
        int i = Math.min(end, text.length()) - 1;
        while (text.charAt(i) == ' ') {
            i--;
        }
        return i;
    }

    private static int least(char clause, char letter) {
        return letter == 'n' ? 2 : letter == 'y' ? 1 : 0;
    }

    private static int most(char clause, char letter) {
        switch (letter) {
            case 'n': return 8;
            case 'k': return 99;
            case 'y': return 40;
            case 'w': return 1;
            case 'f': return 9;
            default: return 7;
        }
    }
}
