import java.util.ArrayDeque;
import java.util.Deque;
import java.util.Map;

/** A text of THE LAW: its fault by an automaton with a pile, its value by splitting the text at its weakest signs. */
final class SlowLaw {
    /** The place of the FAULT; -1 if there is none. */
    static int fault(String text) {
        Deque<Character> open = new ArrayDeque<>();
        // Whether the B that stands open in each bracket (and outside of them all) has its sign already.
        Deque<Boolean> compared = new ArrayDeque<>();
        compared.push(false);
        boolean wantsOperand = true;
        boolean asked = false;
        int digits = 0;
        for (int i = 0; i < text.length(); i++) {
            char c = text.charAt(i);
            if (wantsOperand) {
                if (c == '(' || c == '!' || c == '-') {
                    if (open.size() == 6) {
                        return i;
                    }
                    open.push(c);
                    if (c == '(') {
                        compared.push(false);
                    }
                    continue;
                }
                if ("wslknt".indexOf(c) < 0 && "0123456789".indexOf(c) < 0) {
                    return i;
                }
                digits = Character.isDigit(c) ? 1 : 9;
                wantsOperand = false;
                continue;
            }
            if ("0123456789".indexOf(c) >= 0 && digits < 4) {
                digits++;
                continue;
            }
            // The operand ended, and with it the ! and - that stand ahead of it.
            while (!open.isEmpty() && open.peek() != '(') {
                open.pop();
            }
            digits = 9;
            if (c == ')') {
                if (open.isEmpty()) {
                    return i;
                }
                open.pop();
                compared.pop();
                continue;
            }
            if (c == '?' || c == ';') {
                if (!open.isEmpty() || c == '?' && asked) {
                    return i;
                }
                asked = c == '?';
                compared.pop();
                compared.push(false);
            } else if (c == '|' || c == '&') {
                compared.pop();
                compared.push(false);
            } else if (c == '<' || c == '=' || c == '>') {
                if (compared.peek()) {
                    return i;
                }
                compared.pop();
                compared.push(true);
            } else if ("+-*/%".indexOf(c) < 0) {
                return i;
            }
            wantsOperand = true;
        }
        while (!open.isEmpty() && open.peek() != '(') {
            open.pop();
        }
        return wantsOperand || !open.isEmpty() ? text.length() : -1;
    }

    static int value(String text, Map<Character, Integer> names) {
        for (String line : text.split(";")) {
            int ask = line.indexOf('?');
            if (ask < 0) {
                return worked(line, names);
            }
            if (worked(line.substring(0, ask), names) != 0) {
                return worked(line.substring(ask + 1), names);
            }
        }
        return 0;
    }

    private static final String[] WEAKEST_FIRST = {"|", "&", "<=>", "+-", "*/%"};

    private static int worked(String e, Map<Character, Integer> names) {
        for (String signs : WEAKEST_FIRST) {
            int at = lastOutside(e, signs);
            if (at >= 0) {
                return joined(e.charAt(at), worked(e.substring(0, at), names), worked(e.substring(at + 1), names));
            }
        }
        char c = e.charAt(0);
        if (c == '!') {
            return worked(e.substring(1), names) == 0 ? 1 : 0;
        }
        if (c == '-') {
            return -worked(e.substring(1), names);
        }
        if (c == '(') {
            return worked(e.substring(1, e.length() - 1), names);
        }
        return names.containsKey(c) ? names.get(c) : Integer.parseInt(e);
    }

    /** The last of these signs that stands in no bracket and between two operands. */
    private static int lastOutside(String e, String signs) {
        int depth = 0;
        for (int i = e.length() - 1; i > 0; i--) {
            char c = e.charAt(i);
            if (c == ')') {
                depth++;
            } else if (c == '(') {
                depth--;
            } else if (depth == 0 && signs.indexOf(c) >= 0 && "(!|&<=>+-*/%".indexOf(e.charAt(i - 1)) < 0) {
                return i;
            }
        }
        return -1;
    }

    private static int joined(char sign, int a, int b) {
        switch (sign) {
            case '|': return a != 0 | b != 0 ? 1 : 0;
            case '&': return a != 0 & b != 0 ? 1 : 0;
            case '<': return a < b ? 1 : 0;
            case '=': return a == b ? 1 : 0;
            case '>': return a > b ? 1 : 0;
            case '+': return a + b;
            case '-': return a - b;
            case '*': return a * b;
            case '/': return b == 0 ? 0 : a / b;
            default: return b == 0 ? 0 : a % b;
        }
    }

    private SlowLaw() {
    }
}
