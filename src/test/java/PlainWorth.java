import java.util.Map;

/** What a text without a FAULT is worth: by cutting it at the sign that binds least, the last of alike ones. */
final class PlainWorth {
    private PlainWorth() {
    }

    static int of(String text, char label, Map<Character, Integer> letters) {
        for (String clause : text.replace(" ", "").split(";")) {
            String body = clause.substring(2);
            int mark = body.indexOf('?');
            if (clause.charAt(0) == label && (mark < 0 || holds(body.substring(0, mark), letters))) {
                return sum(body.substring(mark + 1), letters);
            }
        }
        return 0;
    }

    /** Where the last of some signs stands outside all brackets; -1. */
    private static int last(String text, String signs) {
        int open = 0;
        for (int at = text.length() - 1; at >= 0; at--) {
            char sign = text.charAt(at);
            open += ")]".indexOf(sign) >= 0 ? 1 : "([".indexOf(sign) >= 0 ? -1 : 0;
            if (open == 0 && signs.indexOf(sign) >= 0) {
                return at;
            }
        }
        return -1;
    }

    private static boolean holds(String text, Map<Character, Integer> letters) {
        int or = last(text, "|");
        if (or >= 0) {
            return holds(text.substring(0, or), letters) || holds(text.substring(or + 1), letters);
        }
        int and = last(text, "&");
        if (and >= 0) {
            return holds(text.substring(0, and), letters) && holds(text.substring(and + 1), letters);
        }
        if (text.startsWith("!")) {
            return !holds(text.substring(1), letters);
        }
        if (text.startsWith("(")) {
            return holds(text.substring(1, text.length() - 1), letters);
        }
        int at = last(text, "=<>");
        int order = Integer.compare(sum(text.substring(0, at), letters), sum(text.substring(at + 1), letters));
        return order == (text.charAt(at) == '=' ? 0 : text.charAt(at) == '<' ? -1 : 1);
    }

    private static int sum(String text, Map<Character, Integer> letters) {
        int at = last(text, "+-");
        at = at >= 0 ? at : last(text, "*/");
        if (at >= 0) {
            long left = sum(text.substring(0, at), letters);
            long right = sum(text.substring(at + 1), letters);
            long value = switch (text.charAt(at)) {
                case '+' -> left + right;
                case '-' -> left - right;
                case '*' -> left * right;
                default -> right == 0 ? 0 : left / right;
            };
            return (int) Math.min(1000000, Math.max(-1000000, value));
        }
        if (text.startsWith("[")) {
            return sum(text.substring(1, text.length() - 1), letters);
        }
        return Character.isDigit(text.charAt(0)) ? Integer.parseInt(text)
                : letters.getOrDefault(text.charAt(0), 0);
    }
}
