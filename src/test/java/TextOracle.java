import java.util.ArrayDeque;
import java.util.Deque;

/** TEXTS read and worked out in another way than the program does it: by marks on a stack, and by splitting. */
final class TextOracle {
    private TextOracle() {
    }

    /** What stands open around a place: how many ! wait for their Q, and whether its S was compared already. */
    private static final class Level {
        int nots = 0;
        boolean compared = false;
    }

    /** The FAULT, or -1. */
    static int fault(String text, String names) {
        Deque<Level> levels = new ArrayDeque<>();
        levels.push(new Level());
        boolean wantsOperand = true;
        int digits = 0;
        for (int i = 0; i < text.length(); i++) {
            char sign = text.charAt(i);
            Level level = levels.peek();
            boolean digit = sign >= '0' && sign <= '9';
            if (wantsOperand) {
                if (digit || names.indexOf(sign) >= 0) {
                    digits = digit ? 1 : 4;
                    level.nots = 0;
                    wantsOperand = false;
                } else if ((sign == '!' || sign == '(') && open(levels) < 5) {
                    if (sign == '!') {
                        level.nots++;
                    } else {
                        levels.push(new Level());
                    }
                } else {
                    return i;
                }
            } else if (digit && digits < 4) {
                digits++;
            } else if (sign == ')' && levels.size() > 1) {
                levels.pop();
                levels.peek().nots = 0;
                digits = 4;
            } else if ("|&<=>+-*/%".indexOf(sign) >= 0 && !("<=>".indexOf(sign) >= 0 && level.compared)) {
                wantsOperand = true;
                if ("|&<=>".indexOf(sign) >= 0) {
                    level.compared = sign != '|' && sign != '&';
                }
            } else {
                return i;
            }
        }
        return wantsOperand || levels.size() > 1 ? text.length() : -1;
    }

    private static int open(Deque<Level> levels) {
        int open = levels.size() - 1;
        for (Level level : levels) {
            open += level.nots;
        }
        return open;
    }

    /** What a TEXT without a FAULT gives. */
    static int value(String text, String names, int... values) {
        for (String signs : new String[] {"|", "&", "<=>", "+-", "*/%"}) {
            int at = lastOutside(text, signs);
            if (at >= 0) {
                return joined(text.charAt(at), value(text.substring(0, at), names, values),
                    value(text.substring(at + 1), names, values));
            }
        }
        if (text.charAt(0) == '!') {
            return value(text.substring(1), names, values) == 0 ? 1 : 0;
        }
        if (text.charAt(0) == '(') {
            return value(text.substring(1, text.length() - 1), names, values);
        }
        int name = names.indexOf(text.charAt(0));
        return name >= 0 ? values[name] : Integer.parseInt(text);
    }

    private static int lastOutside(String text, String signs) {
        int depth = 0;
        for (int i = text.length() - 1; i >= 0; i--) {
            char sign = text.charAt(i);
            depth += sign == ')' ? 1 : sign == '(' ? -1 : 0;
            if (depth == 0 && signs.indexOf(sign) >= 0) {
                return i;
            }
        }
        return -1;
    }

    private static int joined(char sign, long left, long right) {
        if ((sign == '/' || sign == '%') && right == 0) {
            return 0;
        }
        return switch (sign) {
            case '|' -> left != 0 || right != 0 ? 1 : 0;
            case '&' -> left != 0 && right != 0 ? 1 : 0;
            case '<' -> left < right ? 1 : 0;
            case '=' -> left == right ? 1 : 0;
            case '>' -> left > right ? 1 : 0;
            case '+' -> (int) (left + right);
            case '-' -> (int) (left - right);
            case '*' -> (int) (left * right);
            case '/' -> (int) (left / right);
            default -> (int) (left % right);
        };
    }
}
