import java.util.ArrayList;
import java.util.HashMap;
import java.util.LinkedHashSet;
import java.util.List;
import java.util.Map;
import java.util.Set;

/**
 * The grammar of RULES written down as productions and followed by Earley's way, so that it shares
 * nothing with the reading in the class. A production's parts: names in < >, and single signs.
 */
final class PlainGrammar {
    private static final int DEEPEST = 6;
    private final Map<String, List<String[]>> productions = new HashMap<>();

    PlainGrammar() {
        add("rule", "<blank>", "<clauses>");
        add("clauses", "<clause>");
        add("clauses", "<clauses>", "<;>", "<clause>");
        add("clause", "<label>", "<:>", "<sum0>");
        add("clause", "<label>", "<:>", "<condition0>", "<?>", "<sum0>");
        add("blank");
        add("blank", "<blank>", " ");
        signs("label", "qsd");
        signs("letter", "apwtkmer");
        signs("comparison", "=<>");
        signs("adding", "+-");
        signs("timing", "*/");
        for (String sign : "; : ? ! ( ) [ ] & |".split(" ")) {
            signs(sign, sign);
        }
        for (char c = '0'; c <= '9'; c++) {
            add("digit", "" + c);
        }
        add("number", "<digit>", "<blank>");
        add("number", "<digit>", "<digit>", "<blank>");
        add("number", "<digit>", "<digit>", "<digit>", "<blank>");
        add("number", "<digit>", "<digit>", "<digit>", "<digit>", "<blank>");
        for (int depth = 0; depth <= DEEPEST; depth++) {
            level(depth);
        }
    }

    private void level(int d) {
        add("condition" + d, "<part" + d + ">");
        add("condition" + d, "<condition" + d + ">", "<|>", "<part" + d + ">");
        add("part" + d, "<unit" + d + ">");
        add("part" + d, "<part" + d + ">", "<&>", "<unit" + d + ">");
        add("unit" + d, "<sum" + d + ">", "<comparison>", "<sum" + d + ">");
        add("sum" + d, "<term" + d + ">");
        add("sum" + d, "<sum" + d + ">", "<adding>", "<term" + d + ">");
        add("term" + d, "<atom" + d + ">");
        add("term" + d, "<term" + d + ">", "<timing>", "<atom" + d + ">");
        add("atom" + d, "<number>");
        add("atom" + d, "<letter>");
        if (d < DEEPEST) {
            add("unit" + d, "<!>", "<unit" + (d + 1) + ">");
            add("unit" + d, "<(>", "<condition" + (d + 1) + ">", "<)>");
            add("atom" + d, "<[>", "<sum" + (d + 1) + ">", "<]>");
        }
    }

    private void signs(String name, String signs) {
        for (char sign : signs.toCharArray()) {
            add(name, "" + sign, "<blank>");
        }
    }

    private void add(String name, String... parts) {
        productions.computeIfAbsent(name, key -> new ArrayList<>()).add(parts);
    }

    private record Item(String name, String[] parts, int dot, int start) {
        boolean isWhole() {
            return dot == parts.length;
        }

        boolean wants(String part) {
            return !isWhole() && parts[dot].equals(part);
        }

        Item moved() {
            return new Item(name, parts, dot + 1, start);
        }
    }

    int faultOf(String text) {
        List<Set<Item>> chart = new ArrayList<>();
        Set<Item> items = new LinkedHashSet<>();
        for (String[] parts : productions.get("rule")) {
            items.add(new Item("rule", parts, 0, 0));
        }
        chart.add(items);
        for (int at = 0; ; at++) {
            close(chart, at);
            if (at == text.length()) {
                break;
            }
            Set<Item> next = new LinkedHashSet<>();
            for (Item item : chart.get(at)) {
                if (item.wants("" + text.charAt(at))) {
                    next.add(item.moved());
                }
            }
            if (next.isEmpty()) {
                return at;
            }
            chart.add(next);
        }
        for (Item item : chart.get(text.length())) {
            if (item.name.equals("rule") && item.isWhole()) {
                return -1;
            }
        }
        return text.length();
    }

    private void close(List<Set<Item>> chart, int at) {
        boolean grows = true;
        while (grows) {
            List<Item> more = new ArrayList<>();
            for (Item item : chart.get(at)) {
                if (item.isWhole()) {
                    for (Item waiting : chart.get(item.start)) {
                        if (waiting.wants("<" + item.name + ">")) {
                            more.add(waiting.moved());
                        }
                    }
                } else if (item.parts[item.dot].length() > 1) {
                    String name = item.parts[item.dot].substring(1, item.parts[item.dot].length() - 1);
                    for (String[] parts : productions.get(name)) {
                        more.add(new Item(name, parts, 0, at));
                    }
                }
            }
            grows = chart.get(at).addAll(more);
        }
    }
}
