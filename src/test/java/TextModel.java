import java.util.ArrayDeque;
import java.util.Deque;

/** Texts a second time: a stack of what is open finds the fault, and the value is found by parting at the weakest sign. */
final class TextModel {
    private static final String NAMES = "yksfgctlepmjb";

    private static final class Level {
        int unaries; // ! and - ahead of the operand that is read
        boolean compared;
    }

    /** -1: a text. */
    static int fault(String tape) {
        Deque<Level> levels = new ArrayDeque<>();
        levels.push(new Level());
        boolean wanted = true, asked = false;
        int digits = 0;
        for (int i = 0; i < tape.length(); i++) {
            char c = tape.charAt(i);
            Level top = levels.peek();
            boolean digit = c >= '0' && c <= '9';
            if (wanted) {
                int open = levels.size() - 1;
                for (Level l : levels) open += l.unaries;
                if (digit || NAMES.indexOf(c) >= 0) {
                    wanted = false;
                    digits = digit ? 1 : 0;
                    top.unaries = 0;
                } else if ((c == '!' || c == '-') && open < 8) {
                    top.unaries++;
                } else if (c == '(' && open < 8) {
                    levels.push(new Level());
                } else {
                    return i;
                }
                continue;
            }
            if (digit && digits > 0 && digits < 6) {
                digits++;
                continue;
            }
            digits = 0;
            wanted = true;
            if ("+-*/%".indexOf(c) >= 0) continue;
            if ("&|".indexOf(c) >= 0) {
                top.compared = false;
            } else if ("<=>".indexOf(c) >= 0 && !top.compared) {
                top.compared = true;
            } else if (c == ')' && levels.size() > 1) {
                levels.pop();
                levels.peek().unaries = 0;
                wanted = false;
            } else if (c == '?' && levels.size() == 1 && !asked) {
                asked = true;
                top.compared = false;
            } else if (c == ';' && levels.size() == 1) {
                asked = false;
                top.compared = false;
            } else {
                return i;
            }
        }
        return wanted || levels.size() > 1 ? tape.length() : -1;
    }

    /** The value, and the line. */
    static int[] say(String tape, int[] names) {
        String[] lines = tape.split(";");
        for (int i = 0; i < lines.length; i++) {
            String[] parts = lines[i].split("\\?");
            if (parts.length == 1) return new int[] {value(parts[0], names), i};
            if (value(parts[0], names) != 0) return new int[] {value(parts[1], names), i};
        }
        return new int[] {0, -1};
    }

    /** The place of the last of some signs that stands outside brackets with an operand before it; -1. */
    private static int last(String e, String signs) {
        int depth = 0, at = -1;
        for (int i = 0; i < e.length(); i++) {
            char c = e.charAt(i);
            depth += c == '(' ? 1 : c == ')' ? -1 : 0;
            boolean behindOperand = i > 0 && "!-(+*/%<=>&|".indexOf(e.charAt(i - 1)) < 0;
            if (depth == 0 && c != ')' && behindOperand && signs.indexOf(c) >= 0) at = i;
        }
        return at;
    }

    private static int value(String e, int[] names) {
        for (String signs : new String[] {"|", "&", "<=>", "+-", "*/%"}) {
            int at = last(e, signs);
            if (at < 0) continue;
            int a = value(e.substring(0, at), names), b = value(e.substring(at + 1), names);
            switch (e.charAt(at)) {
                case '|': return a != 0 || b != 0 ? 1 : 0;
                case '&': return a != 0 && b != 0 ? 1 : 0;
                case '<': return a < b ? 1 : 0;
                case '=': return a == b ? 1 : 0;
                case '>': return a > b ? 1 : 0;
                case '+': return a + b;
                case '-': return a - b;
                case '*': return a * b;
                case '/': return b == 0 ? 0 : a / b;
                default: return b == 0 ? 0 : a % b;
            }
        }
        char c = e.charAt(0);
        if (c == '!') return value(e.substring(1), names) == 0 ? 1 : 0;
        if (c == '-') return -value(e.substring(1), names);
        if (c == '(') return value(e.substring(1, e.length() - 1), names);
        return c >= '0' && c <= '9' ? Integer.parseInt(e) : names[NAMES.indexOf(c)];
    }
}
