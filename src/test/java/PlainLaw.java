import java.util.ArrayList;
import java.util.List;

/** A TEXT read into a tree, from which the value is worked out; at the first byte that no rule takes it stops. */
final class PlainLaw {
    /** sign: 'n' a number, a name, or what joins the parts; '~' is - ahead of an O. */
    record Tree(char sign, int number, List<Tree> parts) { }

    record Line(Tree first, Tree second) { }

    private static final class Fault extends RuntimeException {
        Fault() {
            super(null, null, false, false);
        }
    }

    private final String text;
    private int at = 0;
    private int open = 0;
    private int fault = -1;
    private final List<Line> lines = new ArrayList<>();

    PlainLaw(String text) {
        this.text = text;
        try {
            lines.add(line());
            while (sees(";")) {
                at++;
                lines.add(line());
            }
            if (at < text.length()) throw new Fault();
        } catch (Fault e) {
            fault = at;
        }
    }

    int fault() {
        return fault;
    }

    private boolean sees(String signs) {
        return at < text.length() && signs.indexOf(text.charAt(at)) >= 0;
    }

    private Line line() {
        Tree first = level(0);
        if (!sees("?")) return new Line(null, first);
        at++;
        return new Line(first, level(0));
    }

    private static final String[] JOINS = {"|", "&", "<=>", "+-", "*/%"};

    private Tree level(int rank) {
        if (rank == JOINS.length) return operand();
        Tree left = level(rank + 1);
        while (sees(JOINS[rank])) {
            char sign = text.charAt(at++);
            left = new Tree(sign, 0, List.of(left, level(rank + 1)));
            if (rank == 2) break;
        }
        return left;
    }

    private Tree operand() {
        if (sees("abwtv")) return new Tree(text.charAt(at++), 0, List.of());
        if (sees("0123456789")) {
            int from = at;
            while (sees("0123456789") && at - from < 4) at++;
            return new Tree('n', Integer.parseInt(text.substring(from, at)), List.of());
        }
        if (!sees("(!-") || open == 6) throw new Fault();
        char sign = text.charAt(at++);
        open++;
        Tree tree;
        if (sign == '(') {
            tree = level(0);
            if (!sees(")")) throw new Fault();
            at++;
        } else {
            tree = new Tree(sign == '-' ? '~' : '!', 0, List.of(operand()));
        }
        open--;
        return tree;
    }

    int value(int a, int b, int w, int t, int v) {
        int[] names = {a, b, w, t, v};
        for (Line line : lines) {
            if (line.first() == null || work(line.first(), names) != 0) return work(line.second(), names);
        }
        return 0;
    }

    private static int work(Tree tree, int[] names) {
        int left = tree.parts().isEmpty() ? 0 : work(tree.parts().get(0), names);
        int right = tree.parts().size() < 2 ? 0 : work(tree.parts().get(1), names);
        switch (tree.sign()) {
            case 'n': return tree.number();
            case '~': return -left;
            case '!': return left == 0 ? 1 : 0;
            case '+': return left + right;
            case '-': return left - right;
            case '*': return left * right;
            case '/': return right == 0 ? 0 : left / right;
            case '%': return right == 0 ? 0 : left % right;
            case '<': return left < right ? 1 : 0;
            case '=': return left == right ? 1 : 0;
            case '>': return left > right ? 1 : 0;
            case '|': return left == 0 && right == 0 ? 0 : 1;
            case '&': return left == 0 || right == 0 ? 0 : 1;
            default: return names["abwtv".indexOf(tree.sign())];
        }
    }
}
