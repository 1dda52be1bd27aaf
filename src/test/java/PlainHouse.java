import java.math.BigInteger;
import java.util.ArrayList;
import java.util.Arrays;
import java.util.Comparator;
import java.util.HashMap;
import java.util.HashSet;
import java.util.LinkedHashSet;
import java.util.List;
import java.util.Map;
import java.util.NoSuchElementException;
import java.util.Set;
import java.util.TreeMap;
import java.util.TreeSet;

/**
 * The document once more, as plainly as the Java library lets it be said, without a thought for speed:
 * what the class answers is held against this in runs of many calls.
 */
final class PlainHouse {
    private static final PlainGrammar GRAMMAR = new PlainGrammar();
    private static final int NONE = -1;
    private static final int HIDDEN = -1000000;

    record Person(int number, int place, int age, int work) {
        int stratum() {
            return (int) List.of(25, 45, 65).stream().filter(bound -> age >= bound).count();
        }
    }

    record Line(int number, Person person, int day, int sort, int mood, int saying, int from, int told) {
    }

    record Stop(int person, int day, int told) {
    }

    record Rule(int number, String text, int from, int told) {
    }

    record Happening(int place, int day, int sort, boolean is, int told) {
    }

    record Mark(int reader, int line, int value, int told) {
    }

    int now;
    final List<Person> persons = new ArrayList<>();
    final List<Line> lines = new ArrayList<>();
    final List<Stop> stops = new ArrayList<>();
    final List<Rule> rules = new ArrayList<>();
    final List<Happening> happenings = new ArrayList<>();
    final List<Mark> marks = new ArrayList<>();
    final Map<Integer, Integer> land = new TreeMap<>();
    final List<int[]> watchers = new ArrayList<>();
    final List<int[]> wanted = new ArrayList<>();
    final List<int[]> questions = new ArrayList<>();
    String tape = "";

    private static boolean in(int value, int least, int most) {
        return least <= value && value <= most;
    }

    private boolean q(int q) {
        return in(q, 0, now);
    }

    private boolean isPerson(int person) {
        return in(person, 0, persons.size() - 1);
    }

    private boolean isLine(int line) {
        return in(line, 0, lines.size() - 1);
    }

    private List<Line> known(int q) {
        return lines.stream().filter(l -> l.told <= q).toList();
    }

    int days(int n) {
        if (!in(n, 0, 400) || now + n > 1000) {
            return NONE;
        }
        return now += n;
    }

    int person(int place, int age, int work) {
        if (!in(place, 0, 7) || !in(age, 10, 99) || !in(work, 0, 7) || persons.size() == 24) {
            return NONE;
        }
        persons.add(new Person(persons.size(), place, age, work));
        return persons.size() - 1;
    }

    int line(int person, int day, int sort, int mood, int saying, int from) {
        boolean said = in(saying, 0, 29);
        if (!isPerson(person) || !in(day, 0, now) || !in(sort, 0, 9) || !in(mood, -9, 9)
                || !said && saying != NONE || !isPerson(from) && from != NONE || from == person
                || from != NONE && !said || lines.size() == 200) {
            return NONE;
        }
        int stopped = stopped(person, now);
        if (stopped != NONE && day >= stopped) {
            return NONE;
        }
        lines.add(new Line(lines.size(), persons.get(person), day, sort, mood, saying, from, now));
        return lines.size() - 1;
    }

    int told(int line, int what) {
        if (!isLine(line) || !in(what, 0, 6)) {
            throw new NoSuchElementException();
        }
        Line l = lines.get(line);
        return new int[] {l.person.number, l.day, l.sort, l.mood, l.saying, l.from, l.told}[what];
    }

    boolean stop(int person, int day) {
        return isPerson(person) && in(day, 0, 1000) && stops.size() < 60
                && stops.add(new Stop(person, day, now));
    }

    int stopped(int person, int q) {
        if (!q(q)) {
            return NONE;
        }
        return stops.stream().filter(s -> s.person == person && s.told <= q)
                .reduce((one, later) -> later).map(s -> s.day).orElse(NONE);
    }

    private boolean stoppedBy(int person, int day, int q) {
        return in(stopped(person, q), 0, day);
    }

    int feed(int a, int b, int c, int d, int e) {
        StringBuilder more = new StringBuilder();
        for (int word : new int[] {a, b, c, d, e}) {
            for (byte one : java.nio.ByteBuffer.allocate(4).putInt(word).array()) {
                if (one != 0) {
                    more.append((char) Byte.toUnsignedInt(one));
                }
            }
        }
        if (tape.length() + more.length() > 160) {
            return NONE;
        }
        tape += more;
        return tape.length();
    }

    boolean end(int n) {
        if (!in(n, 0, tape.length())) {
            return false;
        }
        tape = tape.substring(0, n);
        return true;
    }

    int fault() {
        return GRAMMAR.faultOf(tape);
    }

    int rule(int from) {
        if (fault() != NONE || !in(from, 0, 1000) || rules.size() == 20) {
            return NONE;
        }
        rules.add(new Rule(rules.size(), tape, from, now));
        tape = "";
        return rules.size() - 1;
    }

    int force(int day, int q) {
        if (!in(day, 0, 1000) || !q(q)) {
            return NONE;
        }
        return rules.stream().filter(r -> r.told <= q && r.from <= day)
                .max(Comparator.comparingInt(Rule::from).thenComparingInt(Rule::number))
                .map(Rule::number).orElse(NONE);
    }

    private int worth(char label, Map<Character, Integer> letters, int day, int q) {
        int rule = force(day, q);
        return rule == NONE ? 0 : PlainWorth.of(rules.get(rule).text, label, letters);
    }

    private static Map<Character, Integer> lettersOf(Person p) {
        return new HashMap<>(Map.of('a', p.age, 'p', p.place, 'w', p.work));
    }

    int asked(int person, int day, int sort, int q) {
        if (!isPerson(person) || !in(day, 0, 1000) || !in(sort, 0, 9) || !q(q)) {
            return NONE;
        }
        Map<Character, Integer> letters = lettersOf(persons.get(person));
        letters.putAll(Map.of('t', day, 'k', sort));
        return worth('q', letters, day, q) == 0 ? 0 : 1;
    }

    int shown(int line, int day, int rank, int q) {
        if (!isLine(line) || !in(day, 0, 1000) || !in(rank, 0, 9) || !q(q)) {
            return NONE;
        }
        Line l = lines.get(line);
        if (l.told > q || day < l.day) {
            return NONE;
        }
        Map<Character, Integer> letters = lettersOf(l.person);
        letters.putAll(Map.of('t', day, 'k', l.sort, 'm', l.mood, 'e', day - l.day, 'r', rank));
        return worth('s', letters, day, q) == 0 ? 0 : 1;
    }

    private List<Line> digestOf(int of, int day, int rank, int q) {
        if (!in(of, 0, 1000) || !in(day, of, 1000) || !in(rank, 0, 9) || !q(q)) {
            return null;
        }
        int most = Math.min(20, Math.max(0, worth('d', Map.of('t', day, 'r', rank), day, q)));
        return known(q).stream().filter(l -> l.day == of && shown(l.number, day, rank, q) == 1)
                .sorted(Comparator.comparingInt((Line l) -> -Math.abs(l.mood)).thenComparingInt(Line::number))
                .limit(most).toList();
    }

    int digest(int of, int day, int rank, int q, int i) {
        List<Line> digest = digestOf(of, day, rank, q);
        if (digest == null) {
            return NONE;
        }
        return i == NONE ? digest.size() : in(i, 0, digest.size() - 1) ? digest.get(i).number : NONE;
    }

    int left(int of, int day, int rank, int q) {
        List<Line> digest = digestOf(of, day, rank, q);
        return digest == null ? NONE : mood(of, q, 1) - digest.size();
    }

    boolean happen(int place, int day, int sort, boolean is) {
        return in(place, 0, 7) && in(day, 0, 1000) && in(sort, 0, 9) && happenings.size() < 100
                && happenings.add(new Happening(place, day, sort, is, now));
    }

    int truth(int line, int q) {
        if (!isLine(line) || !q(q) || lines.get(line).told > q) {
            return NONE;
        }
        Line l = lines.get(line);
        return happenings.stream().filter(h -> h.told <= q && h.place == l.person.place && h.day == l.day
                && h.sort == l.sort).reduce((one, later) -> later).map(h -> h.is ? 1 : 0).orElse(2);
    }

    private Line word(int person, int saying, int q) {
        return known(q).stream().filter(l -> l.person.number == person && l.saying == saying)
                .min(Comparator.comparingInt(Line::day).thenComparingInt(Line::number)).orElse(null);
    }

    int way(int person, int saying, int q, int what) {
        if (!isPerson(person) || !in(saying, 0, 29) || !q(q) || !in(what, 0, 2)
                || word(person, saying, q) == null) {
            return NONE;
        }
        List<Integer> path = new ArrayList<>(List.of(person));
        while (true) {
            int last = path.get(path.size() - 1);
            int steps = path.size() - 1;
            Line word = word(last, saying, q);
            if (word.from == NONE) {
                return new int[] {last, 0, steps}[what];
            }
            Line heard = word(word.from, saying, q);
            if (heard == null || heard.day > word.day) {
                return new int[] {last, 1, steps}[what];
            }
            if (path.contains(word.from)) {
                return new int[] {word.from, 2, steps + 1}[what];
            }
            path.add(word.from);
        }
    }

    int bearers(int saying, int q) {
        if (!in(saying, 0, 29) || !q(q)) {
            return NONE;
        }
        return (int) known(q).stream().filter(l -> l.saying == saying).map(l -> l.person.number).distinct().count();
    }

    boolean mark(int reader, int line, int v) {
        return in(reader, 0, 5) && isLine(line) && in(v, 0, 9) && marks.size() < 200
                && marks.add(new Mark(reader, line, v, now));
    }

    int marked(int reader, int line, int q) {
        if (!q(q)) {
            return NONE;
        }
        return marks.stream().filter(m -> m.reader == reader && m.line == line && m.told <= q)
                .reduce((one, later) -> later).map(m -> m.value).orElse(NONE);
    }

    int agree(int one, int other, int q, int what) {
        if (!in(one, 0, 5) || !in(other, 0, 5) || one == other || !q(q) || !in(what, 0, 1)) {
            return NONE;
        }
        return (int) lines.stream().map(l -> new int[] {marked(one, l.number, q), marked(other, l.number, q)})
                .filter(m -> m[0] != NONE && m[1] != NONE && (what == 1 || m[0] == m[1])).count();
    }

    int habit(int reader, int q) {
        if (!in(reader, 0, 5) || !q(q)) {
            return HIDDEN;
        }
        List<Integer> differences = new ArrayList<>();
        for (Line l : lines) {
            int mine = marked(reader, l.number, q);
            for (int other = 0; other < 6; other++) {
                int theirs = marked(other, l.number, q);
                if (other != reader && mine >= 0 && theirs >= 0) {
                    differences.add(mine - theirs);
                }
            }
        }
        int sum = differences.stream().mapToInt(i -> i).sum();
        return differences.isEmpty() ? 0 : sum * 1000 / differences.size();
    }

    int held(int line, int q) {
        Map<Integer, Integer> votes = new TreeMap<>();
        for (int reader = 0; reader < 6; reader++) {
            votes.merge(marked(reader, line, q), 1, Integer::sum);
        }
        votes.remove(NONE);
        int most = votes.values().stream().max(Comparator.naturalOrder()).orElse(0);
        return most < 2 ? NONE
                : votes.keySet().stream().filter(v -> votes.get(v) == most).findFirst().orElse(NONE);
    }

    boolean land(int place, int stratum, int people) {
        if (!in(place, 0, 7) || !in(stratum, 0, 3) || !in(people, 0, 9999)) {
            return false;
        }
        land.put(place * 4 + stratum, people);
        return true;
    }

    int span(int sort, int day, int q, int what) {
        long all = count(11);
        if (!in(sort, 0, 9) || !in(day, 0, 1000) || !q(q) || !in(what, 0, 2) || all == 0) {
            return HIDDEN;
        }
        long least = 0;
        long greatest = 0;
        long sure = 0;
        for (int key : land.keySet()) {
            List<Line> wrote = known(q).stream().filter(l -> l.sort == sort && l.day == day
                    && l.person.place * 4 + l.person.stratum() == key).toList();
            int sum = wrote.stream().mapToInt(Line::mood).sum();
            boolean some = !wrote.isEmpty();
            least += land.get(key) * (long) (some ? sum * 100 / wrote.size() : -900);
            greatest += land.get(key) * (long) (some ? sum * 100 / wrote.size() : 900);
            sure += some ? land.get(key) : 0;
        }
        return (int) (new long[] {least, greatest, sure * 1000}[what] / all);
    }

    int mood(int day, int q, int what) {
        if (!in(day, 0, 1000) || !q(q) || !in(what, 0, 1)) {
            return HIDDEN;
        }
        return known(q).stream().filter(l -> l.day == day).mapToInt(l -> what == 0 ? l.mood : 1).sum();
    }

    /** The distance of the means of both parts as a fraction; null if one is empty. */
    private static BigInteger[] distance(List<Integer> moods, int ahead) {
        int behind = moods.size() - ahead;
        if (ahead == 0 || behind == 0) {
            return null;
        }
        int one = moods.subList(0, ahead).stream().mapToInt(i -> i).sum();
        int other = moods.subList(ahead, moods.size()).stream().mapToInt(i -> i).sum();
        return new BigInteger[] {BigInteger.valueOf(Math.abs(one * behind - other * ahead)),
            BigInteger.valueOf((long) ahead * behind)};
    }

    private static int compare(BigInteger[] one, BigInteger[] other) {
        return one[0].multiply(other[1]).compareTo(other[0].multiply(one[1]));
    }

    int turn(int from, int to, int q, int what) {
        if (!in(from, 0, 1000) || !in(to, from + 1, 1000) || !q(q) || !in(what, 0, 1)) {
            return NONE;
        }
        List<Line> all = known(q).stream().filter(l -> in(l.day, from, to))
                .sorted(Comparator.comparingInt(Line::day).thenComparingInt(Line::number)).toList();
        List<Integer> moods = new ArrayList<>(all.stream().map(Line::mood).toList());
        int best = NONE;
        int bestAhead = 0;
        for (int d = from + 1; d <= to; d++) {
            int day = d;
            int ahead = (int) all.stream().filter(l -> l.day < day).count();
            BigInteger[] distance = distance(moods, ahead);
            if (distance != null && (best == NONE || compare(distance, distance(moods, bestAhead)) > 0)) {
                best = d;
                bestAhead = ahead;
            }
        }
        if (best == NONE || what == 0) {
            return best;
        }
        BigInteger[] real = distance(moods, bestAhead);
        int chance = 0;
        for (int i = 0; i < all.size(); i++) {
            moods.add(0, moods.remove(moods.size() - 1));
            chance += compare(distance(moods, bestAhead), real) >= 0 ? 1 : 0;
        }
        return chance;
    }

    int last(int person, int q) {
        if (!q(q)) {
            return NONE;
        }
        return known(q).stream().filter(l -> l.person.number == person)
                .max(Comparator.comparingInt(Line::day).thenComparingInt(Line::number))
                .map(Line::number).orElse(NONE);
    }

    int lean(int sort, int q) {
        if (!in(sort, 0, 9) || !q(q)) {
            return HIDDEN;
        }
        List<Person> gone = new ArrayList<>();
        List<Person> others = new ArrayList<>();
        for (Person p : persons) {
            if (last(p.number, q) != NONE) {
                (stoppedBy(p.number, q, q) ? gone : others).add(p);
            }
        }
        if (gone.isEmpty() || others.isEmpty()) {
            return HIDDEN;
        }
        return thousandths(gone, sort, q) - thousandths(others, sort, q);
    }

    private int thousandths(List<Person> some, int sort, int q) {
        return 1000 * (int) some.stream().filter(p -> lines.get(last(p.number, q)).sort == sort).count()
                / some.size();
    }

    int watcher(int from, int to) {
        if (!in(from, 0, 23) || !in(to, from, 23) || watchers.size() == 4) {
            return NONE;
        }
        watchers.add(new int[] {from, to});
        return watchers.size() - 1;
    }

    int want(int place, int hour) {
        if (!in(place, 0, 7) || !in(hour, 0, 23) || wanted.size() == 8) {
            return NONE;
        }
        wanted.add(new int[] {place, hour});
        return wanted.size() - 1;
    }

    int table(int one) {
        if (!in(one, NONE, wanted.size() - 1)) {
            return -2;
        }
        int[] best = bestTable();
        return one == NONE ? (int) Arrays.stream(best).filter(w -> w != NONE).count() : best[one];
    }

    /** Of every table there is, told by the numbers of as many digits as WANTED ones. */
    int[] bestTable() {
        int base = watchers.size() + 1;
        int[] best = null;
        int most = -1;
        for (int code = 0; code < Math.round(Math.pow(base, wanted.size())); code++) {
            int[] table = new int[wanted.size()];
            int rest = code;
            for (int i = wanted.size() - 1; i >= 0; i--) {
                table[i] = rest % base;
                rest /= base;
            }
            int seen = (int) Arrays.stream(table).filter(w -> w < base - 1).count();
            if (seen > most && isTable(table)) {
                most = seen;
                best = table;
            }
        }
        return Arrays.stream(best).map(w -> w == base - 1 ? NONE : w).toArray();
    }

    private boolean isTable(int[] table) {
        for (int i = 0; i < table.length; i++) {
            if (table[i] == watchers.size()) {
                continue;
            }
            int[] mine = wanted.get(i);
            int[] watcher = watchers.get(table[i]);
            if (mine[1] < watcher[0] || mine[1] > watcher[1]) {
                return false;
            }
            for (int j = 0; j < i; j++) {
                int[] other = wanted.get(j);
                if (table[j] == table[i] && (mine[1] == other[1]
                        || mine[0] != other[0] && Math.abs(mine[1] - other[1]) < 2)) {
                    return false;
                }
            }
        }
        return true;
    }

    private static List<Integer> traits(Person p, int by) {
        return List.of((by & 1) == 0 ? NONE : p.place, (by & 2) == 0 ? NONE : p.stratum(),
                (by & 4) == 0 ? NONE : p.work);
    }

    int alike(int person, int by) {
        if (!isPerson(person) || !in(by, 0, 7)) {
            return NONE;
        }
        List<Integer> mine = traits(persons.get(person), by);
        return (int) persons.stream().filter(p -> traits(p, by).equals(mine)).count();
    }

    int hide(int m) {
        if (m < 1) {
            return NONE;
        }
        TreeSet<Integer> good = new TreeSet<>(Comparator.comparingInt((Integer bits) -> Integer.bitCount(bits))
                .thenComparingInt(bits -> bits));
        for (int hidden = 0; hidden < 8; hidden++) {
            int by = 7 ^ hidden;
            if (persons.stream().allMatch(p -> alike(p.number, by) >= m)) {
                good.add(hidden);
            }
        }
        return good.isEmpty() ? NONE : good.first();
    }

    int question(int price, int sorts) {
        if (!in(price, 1, 50) || !in(sorts, 0, 1023) || questions.size() == 8) {
            return NONE;
        }
        questions.add(new int[] {price, sorts});
        return questions.size() - 1;
    }

    private int price(int set) {
        int price = 0;
        for (int i = 0; i < questions.size(); i++) {
            price += (set & 1 << i) != 0 ? questions.get(i)[0] : 0;
        }
        return price;
    }

    private int sorts(int set) {
        Set<Integer> sorts = new HashSet<>();
        for (int i = 0; i < questions.size(); i++) {
            for (int sort = 0; sort < 10; sort++) {
                if ((set & 1 << i) != 0 && (questions.get(i)[1] & 1 << sort) != 0) {
                    sorts.add(sort);
                }
            }
        }
        return sorts.size();
    }

    int buy(int coin) {
        if (!in(coin, 0, 400)) {
            return NONE;
        }
        List<Integer> sets = new ArrayList<>();
        for (int set = 0; set < 1 << questions.size(); set++) {
            if (price(set) <= coin) {
                sets.add(set);
            }
        }
        // by reversed bits the set with the lower QUESTION, where two first differ, is the greater
        sets.sort(Comparator.comparingInt((Integer set) -> -sorts(set)).thenComparingInt(this::price)
                .thenComparingInt(set -> -(Integer.reverse(set) >>> 1)));
        return sets.get(0);
    }

    int judge(int set, int coin) {
        if (!in(set, 0, (1 << questions.size()) - 1) || !in(coin, 0, 400)) {
            return -2;
        }
        return price(set) > coin ? NONE : sorts(set);
    }

    private List<Integer> drawn(int n, long seed) {
        if (!in(n, 1, persons.size())) {
            return null;
        }
        BigInteger two64 = BigInteger.ONE.shiftLeft(64);
        BigInteger x = BigInteger.valueOf(seed).mod(two64);
        TreeSet<Integer> left = new TreeSet<>(persons.stream().map(Person::number).toList());
        Set<Integer> drawn = new LinkedHashSet<>();
        for (int i = 0; i < n; i++) {
            x = x.multiply(new BigInteger("6364136223846793005")).add(new BigInteger("1442695040888963407"))
                    .mod(two64);
            int place = x.shiftRight(33).mod(BigInteger.valueOf(left.size())).intValue();
            int one = new ArrayList<>(left).get(place);
            left.remove(one);
            drawn.add(one);
        }
        return new ArrayList<>(drawn);
    }

    int lot(int n, long seed, int i) {
        List<Integer> drawn = drawn(n, seed);
        return drawn == null || !in(i, 0, n - 1) ? NONE : drawn.get(i);
    }

    int beside(int n, long seed, int day) {
        List<Integer> drawn = drawn(n, seed);
        if (drawn == null || !in(day, 0, now)) {
            return HIDDEN;
        }
        return lines.stream().filter(l -> l.day == day && drawn.contains(l.person.number))
                .mapToInt(Line::mood).sum();
    }

    int count(int what) {
        int gone = (int) persons.stream().filter(p -> stoppedBy(p.number, now, now)).count();
        int people = land.values().stream().mapToInt(i -> i).sum();
        int[] counts = {now, persons.size(), lines.size(), rules.size(), happenings.size(), marks.size(),
            watchers.size(), wanted.size(), questions.size(), tape.length(), gone, people};
        return in(what, 0, 11) ? counts[what] : NONE;
    }
}
