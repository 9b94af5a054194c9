import java.math.BigInteger;
import java.util.ArrayList;
import java.util.List;

/** A law made by chance as a tree, which tells its own text and is worth what the tree says. */
final class LawModel {
    private static final BigInteger BOUND = BigInteger.valueOf(1000000);

    /** A part of a law: a sign that joins its parts, or a number, or a letter. */
    private static final class Node {
        char sign;
        int number;
        List<Node> parts = new ArrayList<>();
        String text;
    }

    private final List<Node> conditions = new ArrayList<>();
    private final List<Node> sums = new ArrayList<>();
    final String text;

    LawModel(Kit.Dice dice, int size) {
        StringBuilder b = new StringBuilder();
        int clauses = dice.between(1, 3);
        for (int i = 0; i < clauses; i++) {
            Node condition = dice.oneIn(4) ? null : condition(dice, 0, size);
            Node sum = sum(dice, 0, size);
            conditions.add(condition);
            sums.add(sum);
            b.append(i > 0 ? gap(dice) + ";" : "").append(gap(dice)).append("y").append(gap(dice)).append(":");
            b.append(condition == null ? "" : condition.text + gap(dice) + "?").append(sum.text);
        }
        text = b.append(gap(dice)).toString();
    }

    private static String gap(Kit.Dice dice) {
        return dice.oneIn(12) ? " " : "";
    }

    private static Node joined(Kit.Dice dice, char sign, Node one, Node other) {
        Node n = new Node();
        n.sign = sign;
        n.parts.add(one);
        n.parts.add(other);
        n.text = one.text + gap(dice) + sign + other.text;
        return n;
    }

    private static Node condition(Kit.Dice dice, int depth, int size) {
        Node n = truth(dice, depth, size);
        while (dice.oneIn(4)) {
            n = joined(dice, '|', n, truth(dice, depth, size));
        }
        return n;
    }

    private static Node truth(Kit.Dice dice, int depth, int size) {
        Node n = unit(dice, depth, size);
        while (dice.oneIn(4)) {
            n = joined(dice, '&', n, unit(dice, depth, size));
        }
        return n;
    }

    private static Node unit(Kit.Dice dice, int depth, int size) {
        if (depth < 6 && dice.roll(10) < size) {
            boolean not = dice.oneIn(2);
            Node inner = not ? unit(dice, depth + 1, size) : condition(dice, depth + 1, size);
            Node n = new Node();
            n.sign = not ? '!' : '(';
            n.parts.add(inner);
            n.text = gap(dice) + (not ? "!" + inner.text : "(" + inner.text + gap(dice) + ")");
            return n;
        }
        return joined(dice, "=<>".charAt(dice.roll(3)), sum(dice, depth, size), sum(dice, depth, size));
    }

    private static Node sum(Kit.Dice dice, int depth, int size) {
        Node n = term(dice, depth, size);
        while (dice.oneIn(3)) {
            n = joined(dice, dice.oneIn(2) ? '+' : '-', n, term(dice, depth, size));
        }
        return n;
    }

    private static Node term(Kit.Dice dice, int depth, int size) {
        Node n = atom(dice, depth, size);
        while (dice.oneIn(3)) {
            n = joined(dice, dice.oneIn(2) ? '*' : '/', n, atom(dice, depth, size));
        }
        return n;
    }

    private static Node atom(Kit.Dice dice, int depth, int size) {
        Node n = new Node();
        if (depth < 6 && dice.roll(12) < size) {
            n.sign = '[';
            n.parts.add(sum(dice, depth + 1, size));
            n.text = gap(dice) + "[" + n.parts.get(0).text + gap(dice) + "]";
        } else if (dice.oneIn(2)) {
            n.sign = "ywflcd".charAt(dice.roll(6));
            n.text = gap(dice) + n.sign;
        } else {
            n.sign = '0';
            n.number = dice.oneIn(4) ? dice.roll(10000) : dice.roll(12);
            n.text = gap(dice) + (dice.oneIn(9) && n.number < 100 ? "00" : "") + n.number;
        }
        return n;
    }

    int worth(int y, int w, int f, int l, int c, int d) {
        int[] letters = {y, w, f, l, c, d};
        for (int i = 0; i < sums.size(); i++) {
            if (conditions.get(i) == null || value(conditions.get(i), letters) == 1) {
                return value(sums.get(i), letters);
            }
        }
        return 0;
    }

    private static int value(Node n, int[] letters) {
        int first = n.parts.isEmpty() ? 0 : value(n.parts.get(0), letters);
        int second = n.parts.size() < 2 ? 0 : value(n.parts.get(1), letters);
        BigInteger a = BigInteger.valueOf(first);
        BigInteger b = BigInteger.valueOf(second);
        switch (n.sign) {
            case '0': return n.number;
            case '[': case '(': return first;
            case '!': return first == 1 ? 0 : 1;
            case '&': return first == 1 && second == 1 ? 1 : 0;
            case '|': return first == 1 || second == 1 ? 1 : 0;
            case '=': return first == second ? 1 : 0;
            case '<': return first < second ? 1 : 0;
            case '>': return first > second ? 1 : 0;
            case '+': return held(a.add(b));
            case '-': return held(a.subtract(b));
            case '*': return held(a.multiply(b));
            case '/': return second == 0 ? 0 : held(a.divide(b));
            default: return letters["ywflcd".indexOf(n.sign)];
        }
    }

    private static int held(BigInteger v) {
        return v.min(BOUND).max(BOUND.negate()).intValue();
    }
}
