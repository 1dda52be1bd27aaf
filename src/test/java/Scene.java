import java.lang.reflect.InvocationTargetException;
import java.lang.reflect.Method;
import java.util.ArrayList;
import java.util.Arrays;
import java.util.HashMap;
import java.util.List;
import java.util.Map;
import java.util.NoSuchElementException;
import java.util.TreeSet;

/**
 * A run of calls, told as texts like "line(0, 0, 3, 5, 7, -1)". It is made anew for whatever is asked of it,
 * since one object answers 512 calls alone: so a call that is refused can be held against all that later
 * calls show. A boolean counts 1 or 0.
 */
final class Scene {
    /** The answer of a call that throws NoSuchElementException. */
    static final long THROWN = Long.MIN_VALUE;
    private static final int MOST_CALLS = 512;
    private static final Map<String, Method> METHODS = new HashMap<>();

    static {
        for (Method method : DiaryHouse.class.getMethods()) {
            METHODS.put(method.getName(), method);
        }
    }

    private record Call(String text, Method method, Object[] arguments) {
        static Call of(String text) {
            int open = text.indexOf('(');
            Method method = METHODS.get(text.substring(0, open));
            String inside = text.substring(open + 1, text.length() - 1);
            String[] parts = inside.isEmpty() ? new String[0] : inside.split(", *");
            Class<?>[] types = method.getParameterTypes();
            if (types.length != parts.length) {
                throw new IllegalArgumentException(text);
            }
            Object[] arguments = new Object[parts.length];
            for (int i = 0; i < parts.length; i++) {
                if (types[i] == int.class) {
                    arguments[i] = Integer.valueOf(parts[i]);
                } else if (types[i] == long.class) {
                    arguments[i] = Long.valueOf(parts[i]);
                } else {
                    arguments[i] = Boolean.valueOf(parts[i]);
                }
            }
            return new Call(text, method, arguments);
        }

        long on(DiaryHouse house) {
            try {
                Object answer = method.invoke(house, arguments);
                return answer instanceof Boolean is ? is ? 1 : 0 : (Integer) answer;
            } catch (InvocationTargetException e) {
                if (e.getCause().getClass() == NoSuchElementException.class) {
                    return THROWN;
                }
                throw new IllegalStateException(text + " threw", e.getCause());
            } catch (IllegalAccessException e) {
                throw new IllegalStateException(e);
            }
        }

        boolean isRefused(long answer) {
            return method.getReturnType() == boolean.class ? answer == 0 : answer < 0;
        }
    }

    private final List<Call> calls;
    /** What all questions answer; they are asked once, when the first refused call is held against them. */
    private List<List<Call>> probes;
    private long[] view;

    /** Calls that all must be taken. */
    Scene(String... calls) {
        this(new ArrayList<>(), calls);
    }

    private Scene(List<Call> before, String... more) {
        calls = new ArrayList<>(before);
        for (String text : more) {
            calls.add(Call.of(text));
        }
        DiaryHouse house = new DiaryHouse();
        for (Call call : calls) {
            if (call.isRefused(call.on(house))) {
                Due.is("a call of the scene, " + call.text + ", is refused", true, false);
            }
        }
    }

    Scene then(String... more) {
        return new Scene(calls, more);
    }

    /** One call several times; a # in it is the number of the time, from 0 on. */
    Scene times(int n, String call) {
        String[] more = new String[n];
        for (int i = 0; i < n; i++) {
            more[i] = call.replace("#", "" + i);
        }
        return then(more);
    }

    static Scene persons(int n) {
        return new Scene().times(n, "person(0, 20, 1)");
    }

    /** Feeds a text behind what the TAPE has. */
    Scene tape(String text) {
        List<String> feeds = new ArrayList<>();
        for (int at = 0; at < text.length(); at += 20) {
            int[] w = Due.words(text, at);
            feeds.add("feed(" + w[0] + ", " + w[1] + ", " + w[2] + ", " + w[3] + ", " + w[4] + ")");
        }
        return then(feeds.toArray(new String[0]));
    }

    /** Takes a text as a RULE from a DAY on. */
    Scene rule(String text, int from) {
        return then("end(0)").tape(text).then("rule(" + from + ")");
    }

    private DiaryHouse make() {
        DiaryHouse house = new DiaryHouse();
        playOn(house);
        return house;
    }

    /** Makes the calls on an object: how many they are. */
    int playOn(DiaryHouse house) {
        for (Call call : calls) {
            call.on(house);
        }
        return calls.size();
    }

    private String name() {
        StringBuilder name = new StringBuilder("after " + calls.size() + " calls");
        for (Call call : calls.subList(Math.max(0, calls.size() - 3), calls.size())) {
            name.append(", ").append(call.text);
        }
        return name + ": ";
    }

    long answer(String call) {
        return Call.of(call).on(make());
    }

    void is(String call, long want) {
        Due.is(name() + call, answer(call), want);
    }

    /** A call with a % for each of some numbers, from least on. */
    void each(String call, int least, long... wants) {
        for (int i = 0; i < wants.length; i++) {
            is(call.replace("%", "" + (least + i)), wants[i]);
        }
    }

    /** A call is answered so, and nothing that a later call shows is changed by it. */
    void refuses(String call, long want) {
        Call refused = Call.of(call);
        is(call, want);
        if (view == null) {
            probes = probes();
            view = ask(null);
        }
        long[] after = ask(refused);
        int at = 0;
        for (List<Call> probe : probes) {
            for (Call one : probe) {
                Due.is(name() + call + " refused, then " + one.text, after[at], view[at]);
                at++;
            }
        }
    }

    /** A call with a % is taken with least and greatest, and refused a step beyond either and far off. */
    void bounds(String call, int least, int greatest, long refusal) {
        for (int inside : new int[] {least, greatest}) {
            String text = call.replace("%", "" + inside);
            Due.is(name() + text + " is refused", answer(text) == refusal, false);
        }
        for (int outside : new int[] {least - 1, greatest + 1, Integer.MIN_VALUE, Integer.MAX_VALUE}) {
            refuses(call.replace("%", "" + outside), refusal);
        }
    }

    private long[] ask(Call first) {
        long[] answers = new long[probes.stream().mapToInt(List::size).sum()];
        int at = 0;
        for (List<Call> probe : probes) {
            DiaryHouse house = make();
            if (first != null) {
                first.on(house);
            }
            for (Call call : probe) {
                answers[at++] = call.on(house);
            }
        }
        return answers;
    }

    // ---- What is asked: whatever only answers in as few objects as it takes, what tells in one of its own

    private List<List<Call>> probes() {
        int room = MOST_CALLS - calls.size() - 1;
        List<List<Call>> made = new ArrayList<>();
        List<String> questions = questions();
        for (int from = 0; room > 0 && from < questions.size(); from += room) {
            made.add(callsOf(questions.subList(from, Math.min(questions.size(), from + room))));
        }
        for (List<String> telling : tellings()) {
            made.add(callsOf(telling.subList(0, Math.min(Math.max(0, room), telling.size()))));
        }
        return made;
    }

    private static List<Call> callsOf(List<String> texts) {
        return texts.stream().map(Call::of).toList();
    }

    private List<String> questions() {
        int now = (int) answer("count(0)");
        TreeSet<Integer> qs = new TreeSet<>(List.of(0, Math.max(0, now - 1), now));
        TreeSet<Integer> days = new TreeSet<>(List.of(0, 1, now, 1000));
        List<String> asked = new ArrayList<>(List.of("fault()", "mood(0, " + (now + 1) + ", 1)"));
        add(asked, "count(%)", 0, 12);
        add(asked, "table(%)", -1, 8);
        add(asked, "hide(%)", 1, 3);
        add(asked, "bearers(%, " + now + ")", 0, 29);
        asked.addAll(List.of("buy(10)", "buy(400)", "judge(1, 400)", "judge(3, 400)", "judge(255, 400)"));
        for (int person : some((int) answer("count(1)"))) {
            add(asked, "alike(" + person + ", %)", 0, 7);
            add(asked, "lot(" + (person + 1) + ", 5, %)", 0, 3);
            asked.add("beside(" + (person + 1) + ", 5, 0)");
            for (int day : days) {
                asked.add("asked(" + person + ", " + day + ", 0, " + now + ")");
            }
            for (int q : qs) {
                asked.add("stopped(" + person + ", " + q + ")");
                asked.add("last(" + person + ", " + q + ")");
                add(asked, "way(" + person + ", 0, " + q + ", %)", 0, 2);
                add(asked, "way(" + person + ", 29, " + q + ", %)", 0, 2);
            }
        }
        for (int line : some((int) answer("count(2)"))) {
            askOfLine(asked, line, now);
        }
        for (int q : qs) {
            askAsKnown(asked, q, days);
        }
        return asked;
    }

    private static void askOfLine(List<String> asked, int line, int now) {
        add(asked, "told(" + line + ", %)", 0, 6);
        add(asked, "marked(%, " + line + ", " + now + ")", 0, 5);
        asked.add("held(" + line + ", " + now + ")");
        asked.add("truth(" + line + ", " + now + ")");
        asked.add("shown(" + line + ", 1000, 0, " + now + ")");
        asked.add("shown(" + line + ", 1000, 9, " + now + ")");
    }

    private static void askAsKnown(List<String> asked, int q, TreeSet<Integer> days) {
        add(asked, "habit(%, " + q + ")", 0, 5);
        add(asked, "agree(0, 1, " + q + ", %)", 0, 1);
        add(asked, "turn(0, 1000, " + q + ", %)", 0, 1);
        add(asked, "lean(%, " + q + ")", 0, 9);
        for (int day : days) {
            asked.add("force(" + day + ", " + q + ")");
            add(asked, "mood(" + day + ", " + q + ", %)", 0, 1);
            add(asked, "span(0, " + day + ", " + q + ", %)", 0, 2);
            add(asked, "digest(" + day + ", 1000, 0, " + q + ", %)", -1, 2);
            asked.add("left(" + day + ", 1000, 0, " + q + ")");
        }
    }

    private List<List<String>> tellings() {
        List<String> cuts = new ArrayList<>();
        for (int n = (int) answer("count(9)"); n >= 0; n--) {
            cuts.addAll(List.of("end(" + n + ")", "fault()"));
        }
        List<String> stops = new ArrayList<>();
        for (int i = 0; i <= 60; i++) {
            stops.add("stop(0, 0)");
        }
        return List.of(cuts, stops,
                List.of("days(1)", "days(400)", "days(0)"),
                List.of("person(0, 20, 1)", "alike(0, 0)", "line(0, 0, 0, 1, 0, -1)", "line(1, 0, 0, 1, 0, 0)",
                        "count(2)", "mood(0, 0, 0)"),
                List.of("feed(1899651328, 0, 0, 0, 0)", "fault()", "rule(0)", "count(9)", "force(1000, 0)",
                        "asked(0, 0, 0, 0)"),
                List.of("rule(0)", "rule(1000)", "count(9)", "asked(0, 1000, 0, 0)"),
                List.of("happen(0, 0, 0, true)", "mark(0, 0, 1)", "land(0, 0, 1)", "count(4)", "count(5)",
                        "count(11)"),
                List.of("watcher(0, 23)", "want(0, 0)", "table(-1)", "table(0)", "question(1, 1)", "buy(400)"));
    }

    private static void add(List<String> asked, String call, int least, int greatest) {
        for (int i = least; i <= greatest; i++) {
            asked.add(call.replace("%", "" + i));
        }
    }

    /** The first ones, the last one, and the one that there is not yet. */
    private static TreeSet<Integer> some(int size) {
        TreeSet<Integer> some = new TreeSet<>(Arrays.asList(Math.max(0, size - 1), size));
        for (int i = 0; i < Math.min(size, 5); i++) {
            some.add(i);
        }
        return some;
    }
}
