import java.util.ArrayList;
import java.util.Arrays;
import java.util.NoSuchElementException;

/** A house of diaries; shared/DOC.md tells what each call answers. */
public final class DiaryHouse {
    public static final int NONE = -1;
    public static final int HIDDEN = -1000000;

    private static final int NO_SUCH = -2;
    private static final int LAST_DAY = 1000;
    private static final int MOST_DAYS_AT_ONCE = 400;
    private static final int MOST_PERSONS = 24;
    private static final int MOST_LINES = 200;
    private static final int MOST_STOPS = 60;
    private static final int MOST_RULES = 20;
    private static final int MOST_HAPPENINGS = 100;
    private static final int MOST_MARKS = 200;
    private static final int MOST_QUESTIONS = 8;
    private static final int MOST_COIN = 400;
    private static final int MOST_PICKS = 20;
    private static final int PLACES = 8;
    private static final int STRATA = 4;
    private static final int READERS = 6;
    private static final int HIGHEST_MARK = 9;
    private static final int FARTHEST_MEAN = 900;

    private static final int FIRST = 0;
    private static final int BROKEN = 1;
    private static final int ROUND = 2;

    private static final int CANNOT_BE = 0;
    private static final int SURE = 1;
    private static final int MAY_BE = 2;

    private static final int ALL_TRAITS = 7;

    // Sets of traits to hide, the one to be taken first ahead: fewest, then the least sum of bits.
    private static final int[] HIDING_ORDER = {0, 1, 2, 4, 3, 5, 6, 7};

    // The letters of a RULE; a letter's place here is its place in the row of their values.
    private static final String LETTERS = "apwtkmer";
    private static final int AGE = 0;
    private static final int PLACE = 1;
    private static final int WORK = 2;
    private static final int DAY = 3;
    private static final int SORT = 4;
    private static final int MOOD = 5;
    private static final int SINCE = 6;
    private static final int RANK = 7;

    private int now;
    private final ArrayList<Person> persons = new ArrayList<>();
    private final ArrayList<Line> lines = new ArrayList<>();
    private final ArrayList<Stop> stops = new ArrayList<>();
    private final ArrayList<Rule> rules = new ArrayList<>();
    private final ArrayList<Happening> happenings = new ArrayList<>();
    private final ArrayList<Mark> marks = new ArrayList<>();
    private final ArrayList<Question> questions = new ArrayList<>();
    private final Tape tape = new Tape();
    private final Table plan = new Table();
    private final Turn turning = new Turn();
    private final int[][] people = new int[PLACES][STRATA];

    // Rows that calls fill anew and read at once: made here, so that no call makes any.
    private final int[][] markRows = new int[READERS][MOST_LINES];
    private final int[] letters = new int[LETTERS.length()];
    private final Numbers numbers = new Numbers();
    private final int[] picks = new int[MOST_PICKS];
    private final int[] drawn = new int[MOST_PERSONS];

    public DiaryHouse() {
        now = 0;
    }

    public int days(int n) {
        if (!isWithin(n, 0, MOST_DAYS_AT_ONCE) || now + n > LAST_DAY) {
            return NONE;
        }
        now += n;
        return now;
    }

    // ---- PERSONS and LINES

    public int person(int place, int age, int work) {
        if (!isPlace(place) || !isWithin(age, 10, 99) || !isWithin(work, 0, 7)
                || persons.size() >= MOST_PERSONS) {
            return NONE;
        }
        persons.add(new Person(persons.size(), place, age, work));
        return persons.size() - 1;
    }

    public int line(int person, int day, int sort, int mood, int saying, int from) {
        if (!isPerson(person) || !isWithin(day, 0, now) || !isSort(sort) || !isWithin(mood, -9, 9)
                || !isHearing(person, saying, from) || lines.size() >= MOST_LINES
                || hasStoppedBy(person, day, now)) {
            return NONE;
        }
        lines.add(new Line(persons.get(person), day, sort, mood, saying, from, now));
        return lines.size() - 1;
    }

    private boolean isHearing(int person, int saying, int from) {
        if (saying == NONE) {
            return from == NONE;
        }
        return isSaying(saying) && (from == NONE || isPerson(from) && from != person);
    }

    public int told(int line, int what) throws NoSuchElementException {
        if (!isLine(line) || !isWithin(what, 0, 6)) {
            throw new NoSuchElementException("no such LINE, or nothing of it by that number");
        }
        return lines.get(line).part(what);
    }

    public boolean stop(int person, int day) {
        if (!isPerson(person) || !isDay(day) || stops.size() >= MOST_STOPS) {
            return false;
        }
        stops.add(new Stop(person, day, now));
        return true;
    }

    public int stopped(int person, int q) {
        if (!isPerson(person) || !isKnownDay(q)) {
            return NONE;
        }
        return stopDayOf(person, q);
    }

    private int stopDayOf(int person, int q) {
        for (int i = stops.size() - 1; i >= 0; i--) {
            Stop stop = stops.get(i);
            if (stop.person == person && stop.told <= q) {
                return stop.day;
            }
        }
        return NONE;
    }

    private boolean hasStoppedBy(int person, int day, int q) {
        int from = stopDayOf(person, q);
        return from != NONE && from <= day;
    }

    // ---- RULES

    public int feed(int a, int b, int c, int d, int e) {
        int more = bytesIn(a) + bytesIn(b) + bytesIn(c) + bytesIn(d) + bytesIn(e);
        if (tape.length() + more > Tape.MOST_SIGNS) {
            return NONE;
        }
        tape.append(a);
        tape.append(b);
        tape.append(c);
        tape.append(d);
        tape.append(e);
        return tape.length();
    }

    private static int bytesIn(int word) {
        int bytes = 0;
        for (int shift = 0; shift <= 24; shift += 8) {
            if ((word >>> shift & 255) != 0) {
                bytes++;
            }
        }
        return bytes;
    }

    public boolean end(int n) {
        if (!isWithin(n, 0, tape.length())) {
            return false;
        }
        tape.cut(n);
        return true;
    }

    public int fault() {
        return tape.read();
    }

    public int rule(int from) {
        if (!isDay(from) || rules.size() >= MOST_RULES || tape.read() != NONE) {
            return NONE;
        }
        rules.add(new Rule(from, now, tape.codesRead()));
        tape.cut(0);
        return rules.size() - 1;
    }

    public int force(int day, int q) {
        if (!isDay(day) || !isKnownDay(q)) {
            return NONE;
        }
        return ruleInForce(day, q);
    }

    private int ruleInForce(int day, int q) {
        int found = NONE;
        int greatest = NONE;
        for (int i = 0; i < rules.size(); i++) {
            Rule rule = rules.get(i);
            if (rule.told <= q && rule.from <= day && rule.from >= greatest) {
                found = i;
                greatest = rule.from;
            }
        }
        return found;
    }

    private int worthOf(char label, int rule) {
        if (!isWithin(rule, 0, rules.size() - 1)) {
            return 0;
        }
        return rules.get(rule).worth(label, letters, numbers);
    }

    public int asked(int person, int day, int sort, int q) {
        if (!isPerson(person) || !isDay(day) || !isSort(sort) || !isKnownDay(q)) {
            return NONE;
        }
        setPersonLetters(persons.get(person));
        letters[DAY] = day;
        letters[SORT] = sort;
        return worthOf('q', ruleInForce(day, q)) != 0 ? 1 : 0;
    }

    private void setPersonLetters(Person person) {
        Arrays.fill(letters, 0);
        letters[AGE] = person.age;
        letters[PLACE] = person.place;
        letters[WORK] = person.work;
    }

    public int shown(int line, int day, int rank, int q) {
        if (!isLineKnown(line, q) || !isDay(day) || !isRank(rank) || day < lines.get(line).day) {
            return NONE;
        }
        return mayBeShown(lines.get(line), day, rank, ruleInForce(day, q)) ? 1 : 0;
    }

    private boolean mayBeShown(Line line, int day, int rank, int rule) {
        setPersonLetters(line.writer);
        letters[DAY] = day;
        letters[SORT] = line.sort;
        letters[MOOD] = line.mood;
        letters[SINCE] = day - line.day;
        letters[RANK] = rank;
        return worthOf('s', rule) != 0;
    }

    public int digest(int of, int day, int rank, int q, int i) {
        if (!isDigest(of, day, rank, q)) {
            return NONE;
        }
        int picked = pickDigest(of, day, rank, q);
        if (i == NONE) {
            return picked;
        }
        return i >= 0 && i < picked && i < picks.length ? picks[i] : NONE;
    }

    public int left(int of, int day, int rank, int q) {
        if (!isDigest(of, day, rank, q)) {
            return NONE;
        }
        return linesFor(of, q) - pickDigest(of, day, rank, q);
    }

    private boolean isDigest(int of, int day, int rank, int q) {
        return isDay(of) && isDay(day) && day >= of && isRank(rank) && isKnownDay(q);
    }

    private int linesFor(int day, int q) {
        int found = 0;
        for (int i = 0; i < lines.size(); i++) {
            if (lines.get(i).isFor(day, q)) {
                found++;
            }
        }
        return found;
    }

    private int pickDigest(int of, int day, int rank, int q) {
        int rule = ruleInForce(day, q);
        int most = digestSize(day, rank, rule);
        int picked = 0;
        for (int i = 0; i < lines.size(); i++) {
            Line line = lines.get(i);
            if (line.isFor(of, q) && mayBeShown(line, day, rank, rule)) {
                picked = insertPick(i, picked, most);
            }
        }
        return picked;
    }

    private int digestSize(int day, int rank, int rule) {
        Arrays.fill(letters, 0);
        letters[DAY] = day;
        letters[RANK] = rank;
        return Math.max(0, Math.min(MOST_PICKS, worthOf('d', rule)));
    }

    // Lines come by their numbers, so one that is alike in strength goes behind those picked already.
    private int insertPick(int line, int picked, int most) {
        if (most > picks.length || picked > most) {
            return picked;
        }
        int strength = strengthOf(line);
        int at = picked;
        while (at > 0 && strengthOf(picks[at - 1]) < strength) {
            at--;
        }
        if (at >= most) {
            return picked;
        }
        int size = picked < most ? picked + 1 : picked;
        for (int i = size - 1; i > at; i--) {
            picks[i] = picks[i - 1];
        }
        picks[at] = line;
        return size;
    }

    private int strengthOf(int line) {
        return isLine(line) ? Math.abs(lines.get(line).mood) : 0;
    }

    // ---- HAPPENINGS and SAYINGS

    public boolean happen(int place, int day, int sort, boolean is) {
        if (!isPlace(place) || !isDay(day) || !isSort(sort) || happenings.size() >= MOST_HAPPENINGS) {
            return false;
        }
        happenings.add(new Happening(place, day, sort, is, now));
        return true;
    }

    public int truth(int line, int q) {
        if (!isLineKnown(line, q)) {
            return NONE;
        }
        Line asked = lines.get(line);
        int place = asked.writer.place;
        for (int i = happenings.size() - 1; i >= 0; i--) {
            Happening happening = happenings.get(i);
            if (happening.told <= q && happening.isOf(place, asked.day, asked.sort)) {
                return happening.is ? SURE : CANNOT_BE;
            }
        }
        return MAY_BE;
    }

    public int way(int person, int saying, int q, int what) {
        if (!isPerson(person) || !isSaying(saying) || !isKnownDay(q) || !isWithin(what, 0, 2)) {
            return NONE;
        }
        Line word = wordOf(person, saying, q);
        int at = person;
        int met = 1 << person;
        for (int steps = 0; steps <= MOST_PERSONS && word != null; steps++) {
            if (word.from == NONE) {
                return wayPart(what, at, FIRST, steps);
            }
            Line source = wordOf(word.from, saying, q);
            if (source == null || source.day > word.day) {
                return wayPart(what, at, BROKEN, steps);
            }
            at = word.from;
            if ((met & 1 << at) != 0) {
                return wayPart(what, at, ROUND, steps + 1);
            }
            met |= 1 << at;
            word = source;
        }
        return NONE;
    }

    private static int wayPart(int what, int end, int how, int steps) {
        if (what == 0) {
            return end;
        }
        return what == 1 ? how : steps;
    }

    private Line wordOf(int person, int saying, int q) {
        Line word = null;
        for (int i = 0; i < lines.size(); i++) {
            Line line = lines.get(i);
            if (line.writer.number == person && line.saying == saying && line.told <= q
                    && (word == null || line.day < word.day)) {
                word = line;
            }
        }
        return word;
    }

    public int bearers(int saying, int q) {
        if (!isSaying(saying) || !isKnownDay(q)) {
            return NONE;
        }
        int found = 0;
        for (int person = 0; person < persons.size(); person++) {
            if (wordOf(person, saying, q) != null) {
                found++;
            }
        }
        return found;
    }

    // ---- MARKS

    public boolean mark(int reader, int line, int v) {
        if (!isReader(reader) || !isLine(line) || !isWithin(v, 0, HIGHEST_MARK)
                || marks.size() >= MOST_MARKS) {
            return false;
        }
        marks.add(new Mark(reader, line, v, now));
        return true;
    }

    public int marked(int reader, int line, int q) {
        if (!isReader(reader) || !isLine(line) || !isKnownDay(q)) {
            return NONE;
        }
        layMarks(q);
        return markRows[reader][line];
    }

    private void layMarks(int q) {
        for (int reader = 0; reader < READERS; reader++) {
            Arrays.fill(markRows[reader], NONE);
        }
        for (int i = 0; i < marks.size(); i++) {
            Mark mark = marks.get(i);
            if (mark.told <= q && isReader(mark.reader) && isLine(mark.line)) {
                markRows[mark.reader][mark.line] = mark.value;
            }
        }
    }

    public int agree(int one, int other, int q, int what) {
        if (!isReader(one) || !isReader(other) || one == other || !isKnownDay(q)
                || !isWithin(what, 0, 1)) {
            return NONE;
        }
        layMarks(q);
        int both = 0;
        int alike = 0;
        for (int line = 0; line < lines.size(); line++) {
            int mine = markRows[one][line];
            int theirs = markRows[other][line];
            if (mine != NONE && theirs != NONE) {
                both++;
                alike += mine == theirs ? 1 : 0;
            }
        }
        return what == 0 ? alike : both;
    }

    public int habit(int reader, int q) {
        if (!isReader(reader) || !isKnownDay(q)) {
            return HIDDEN;
        }
        layMarks(q);
        int above = 0;
        int pairs = 0;
        for (int other = 0; other < READERS; other++) {
            for (int line = 0; line < lines.size(); line++) {
                int mine = markRows[reader][line];
                int theirs = markRows[other][line];
                if (other != reader && mine != NONE && theirs != NONE) {
                    above += mine - theirs;
                    pairs++;
                }
            }
        }
        return share(above, 1000, pairs);
    }

    public int held(int line, int q) {
        if (!isLine(line) || !isKnownDay(q)) {
            return NONE;
        }
        layMarks(q);
        int heldMark = NONE;
        int most = 1;
        for (int value = 0; value <= HIGHEST_MARK; value++) {
            int having = readersGiving(line, value);
            if (having > most) {
                most = having;
                heldMark = value;
            }
        }
        return heldMark;
    }

    private int readersGiving(int line, int value) {
        int having = 0;
        for (int reader = 0; reader < READERS; reader++) {
            if (markRows[reader][line] == value) {
                having++;
            }
        }
        return having;
    }

    // ---- The LAND and its MOODS

    public boolean land(int place, int stratum, int people) {
        if (!isPlace(place) || !isWithin(stratum, 0, STRATA - 1) || !isWithin(people, 0, 9999)) {
            return false;
        }
        this.people[place][stratum] = people;
        return true;
    }

    private int allPeople() {
        int all = 0;
        for (int place = 0; place < PLACES; place++) {
            for (int stratum = 0; stratum < STRATA; stratum++) {
                all += people[place][stratum];
            }
        }
        return all;
    }

    public int span(int sort, int day, int q, int what) {
        int all = allPeople();
        if (!isSort(sort) || !isDay(day) || !isKnownDay(q) || !isWithin(what, 0, 2) || all == 0) {
            return HIDDEN;
        }
        int sum = 0;
        int writing = 0;
        for (int place = 0; place < PLACES; place++) {
            for (int stratum = 0; stratum < STRATA; stratum++) {
                int living = people[place][stratum];
                int mean = living == 0 ? 0 : meanMood(place, stratum, sort, day, q);
                if (mean != HIDDEN) {
                    sum += living * mean;
                    writing += living;
                }
            }
        }
        if (what == 2) {
            return share(writing, 1000, all);
        }
        int unsure = (all - writing) * FARTHEST_MEAN;
        return share(what == 0 ? sum - unsure : sum + unsure, 1, all);
    }

    private int meanMood(int place, int stratum, int sort, int day, int q) {
        int sum = 0;
        int wrote = 0;
        for (int i = 0; i < lines.size(); i++) {
            Line line = lines.get(i);
            if (line.sort == sort && line.isFor(day, q)
                    && line.writer.livesIn(place, stratum)) {
                sum += line.mood;
                wrote++;
            }
        }
        return wrote == 0 ? HIDDEN : share(sum, 100, wrote);
    }

    private static int share(int sum, int times, int by) {
        return by == 0 ? 0 : sum * times / by;
    }

    public int mood(int day, int q, int what) {
        if (!isDay(day) || !isKnownDay(q) || !isWithin(what, 0, 1)) {
            return HIDDEN;
        }
        if (what == 1) {
            return linesFor(day, q);
        }
        int sum = 0;
        for (int i = 0; i < lines.size(); i++) {
            Line line = lines.get(i);
            if (line.isFor(day, q)) {
                sum += line.mood;
            }
        }
        return sum;
    }

    public int turn(int from, int to, int q, int what) {
        if (!isDay(from) || !isDay(to) || to <= from || !isKnownDay(q) || !isWithin(what, 0, 1)) {
            return NONE;
        }
        turning.clear();
        for (int i = 0; i < lines.size(); i++) {
            Line line = lines.get(i);
            if (line.told <= q && isWithin(line.day, from, to)) {
                turning.add(line.day, line.mood);
            }
        }
        int split = turning.split();
        if (split == NONE) {
            return NONE;
        }
        return what == 0 ? turning.dayAt(split) : turning.chanceAt(split);
    }

    public int last(int person, int q) {
        if (!isPerson(person) || !isKnownDay(q)) {
            return NONE;
        }
        return lastOf(person, q);
    }

    private int lastOf(int person, int q) {
        int found = NONE;
        int greatest = NONE;
        for (int i = 0; i < lines.size(); i++) {
            Line line = lines.get(i);
            if (line.writer.number == person && line.told <= q && line.day >= greatest) {
                found = i;
                greatest = line.day;
            }
        }
        return found;
    }

    public int lean(int sort, int q) {
        if (!isSort(sort) || !isKnownDay(q)) {
            return HIDDEN;
        }
        int gone = 0;
        int goneOfSort = 0;
        int others = 0;
        int othersOfSort = 0;
        for (int person = 0; person < persons.size(); person++) {
            int last = lastOf(person, q);
            if (!isLine(last)) {
                continue;
            }
            int ofSort = lines.get(last).sort == sort ? 1 : 0;
            if (hasStoppedBy(person, q, q)) {
                gone++;
                goneOfSort += ofSort;
            } else {
                others++;
                othersOfSort += ofSort;
            }
        }
        if (gone == 0 || others == 0) {
            return HIDDEN;
        }
        return share(goneOfSort, 1000, gone) - share(othersOfSort, 1000, others);
    }

    // ---- WATCHERS and WANTED ones

    public int watcher(int from, int to) {
        if (!isHour(from) || !isHour(to) || to < from) {
            return NONE;
        }
        return plan.addWatcher(from, to);
    }

    public int want(int place, int hour) {
        if (!isPlace(place) || !isHour(hour)) {
            return NONE;
        }
        return plan.addWanted(place, hour);
    }

    public int table(int wanted) {
        if (wanted == NONE) {
            return plan.seen();
        }
        return isWithin(wanted, 0, plan.wanted() - 1) ? plan.watcherOf(wanted) : NO_SUCH;
    }

    // ---- Who is KNOWN, QUESTIONS, LOTS

    public int alike(int person, int by) {
        if (!isPerson(person) || !isWithin(by, 0, ALL_TRAITS)) {
            return NONE;
        }
        return alikeTo(persons.get(person), by);
    }

    private int alikeTo(Person person, int by) {
        int found = 0;
        for (int i = 0; i < persons.size(); i++) {
            if (person.isLike(persons.get(i), by)) {
                found++;
            }
        }
        return found;
    }

    public int hide(int m) {
        if (m < 1) {
            return NONE;
        }
        for (int hidden : HIDING_ORDER) {
            if (allHaveAlike(m, ALL_TRAITS - hidden)) {
                return hidden;
            }
        }
        return NONE;
    }

    private boolean allHaveAlike(int least, int by) {
        for (int i = 0; i < persons.size(); i++) {
            if (alikeTo(persons.get(i), by) < least) {
                return false;
            }
        }
        return true;
    }

    public int question(int price, int sorts) {
        if (!isWithin(price, 1, 50) || !isWithin(sorts, 0, 1023) || questions.size() >= MOST_QUESTIONS) {
            return NONE;
        }
        questions.add(new Question(price, sorts));
        return questions.size() - 1;
    }

    public int buy(int coin) {
        if (!isCoin(coin)) {
            return NONE;
        }
        int best = 0;
        int bestPrice = 0;
        int bestSorts = 0;
        for (int set = 1; set < 1 << questions.size(); set++) {
            int price = priceOf(set);
            int sorts = sortsOf(set);
            boolean isAsGood = sorts == bestSorts && price == bestPrice;
            if (price <= coin && (sorts > bestSorts || sorts == bestSorts && price < bestPrice
                    || isAsGood && hasTheFirstUnlike(set, best))) {
                best = set;
                bestPrice = price;
                bestSorts = sorts;
            }
        }
        return best;
    }

    private static boolean hasTheFirstUnlike(int set, int other) {
        int unlike = set ^ other;
        return (set & unlike & -unlike) != 0;
    }

    private int priceOf(int set) {
        int price = 0;
        for (int i = 0; i < questions.size(); i++) {
            if ((set >> i & 1) != 0) {
                price += questions.get(i).price;
            }
        }
        return price;
    }

    private int sortsOf(int set) {
        int sorts = 0;
        for (int i = 0; i < questions.size(); i++) {
            if ((set >> i & 1) != 0) {
                sorts |= questions.get(i).sorts;
            }
        }
        return Integer.bitCount(sorts);
    }

    public int judge(int questions, int coin) {
        if (!isWithin(questions, 0, (1 << this.questions.size()) - 1) || !isCoin(coin)) {
            return NO_SUCH;
        }
        return priceOf(questions) > coin ? NONE : sortsOf(questions);
    }

    public int lot(int n, long seed, int i) {
        if (!isLotSize(n) || !isWithin(i, 0, n - 1)) {
            return NONE;
        }
        draw(n, seed);
        return drawn[i];
    }

    // Those drawn stand at the row's front, in the order drawn; behind them the others, by numbers.
    private void draw(int n, long seed) {
        for (int i = 0; i < drawn.length; i++) {
            drawn[i] = i;
        }
        long x = seed;
        for (int i = 0; i < n && i < persons.size() && i < drawn.length; i++) {
            x = x * 6364136223846793005L + 1442695040888963407L;
            int at = i + (int) ((x >>> 33) % (persons.size() - i));
            int one = drawn[at];
            for (int k = at; k > i; k--) {
                drawn[k] = drawn[k - 1];
            }
            drawn[i] = one;
        }
    }

    public int beside(int n, long seed, int day) {
        if (!isLotSize(n) || !isWithin(day, 0, now)) {
            return HIDDEN;
        }
        draw(n, seed);
        int sum = 0;
        for (int i = 0; i < lines.size(); i++) {
            Line line = lines.get(i);
            if (line.isFor(day, now) && isDrawn(line.writer.number, n)) {
                sum += line.mood;
            }
        }
        return sum;
    }

    private boolean isDrawn(int person, int n) {
        for (int i = 0; i < n && i < drawn.length; i++) {
            if (drawn[i] == person) {
                return true;
            }
        }
        return false;
    }

    public int count(int what) {
        switch (what) {
            case 0: return now;
            case 1: return persons.size();
            case 2: return lines.size();
            case 3: return rules.size();
            case 4: return happenings.size();
            case 5: return marks.size();
            case 6: return plan.watchers();
            case 7: return plan.wanted();
            case 8: return questions.size();
            case 9: return tape.length();
            case 10: return personsGone();
            case 11: return allPeople();
            default: return NONE;
        }
    }

    private int personsGone() {
        int gone = 0;
        for (int person = 0; person < persons.size(); person++) {
            if (hasStoppedBy(person, now, now)) {
                gone++;
            }
        }
        return gone;
    }

    // ---- What is within its bounds

    private static boolean isWithin(int value, int least, int greatest) {
        return value >= least && value <= greatest;
    }

    private static boolean isDay(int day) {
        return isWithin(day, 0, LAST_DAY);
    }

    private boolean isKnownDay(int q) {
        return isWithin(q, 0, now);
    }

    private boolean isPerson(int person) {
        return isWithin(person, 0, persons.size() - 1);
    }

    private boolean isLine(int line) {
        return isWithin(line, 0, lines.size() - 1);
    }

    private boolean isLineKnown(int line, int q) {
        return isLine(line) && isKnownDay(q) && lines.get(line).told <= q;
    }

    private static boolean isPlace(int place) {
        return isWithin(place, 0, PLACES - 1);
    }

    private static boolean isSort(int sort) {
        return isWithin(sort, 0, 9);
    }

    private static boolean isSaying(int saying) {
        return isWithin(saying, 0, 29);
    }

    private static boolean isRank(int rank) {
        return isWithin(rank, 0, 9);
    }

    private static boolean isReader(int reader) {
        return isWithin(reader, 0, READERS - 1);
    }

    private static boolean isHour(int hour) {
        return isWithin(hour, 0, 23);
    }

    private static boolean isCoin(int coin) {
        return isWithin(coin, 0, MOST_COIN);
    }

    private boolean isLotSize(int n) {
        return isWithin(n, 1, persons.size());
    }

    private static final class Person {
        private final int number;
        private final int place;
        private final int age;
        private final int work;
        private final int stratum;

        Person(int number, int place, int age, int work) {
            this.number = number;
            this.place = place;
            this.age = age;
            this.work = work;
            this.stratum = age < 25 ? 0 : age < 45 ? 1 : age < 65 ? 2 : 3;
        }

        boolean livesIn(int inPlace, int ofStratum) {
            return place == inPlace && stratum == ofStratum;
        }

        boolean isLike(Person other, int by) {
            return ((by & 1) == 0 || place == other.place)
                    && ((by & 2) == 0 || stratum == other.stratum)
                    && ((by & 4) == 0 || work == other.work);
        }
    }

    private static final class Line {
        private final Person writer;
        private final int day;
        private final int sort;
        private final int mood;
        private final int saying;
        private final int from;
        private final int told;

        Line(Person writer, int day, int sort, int mood, int saying, int from, int told) {
            this.writer = writer;
            this.day = day;
            this.sort = sort;
            this.mood = mood;
            this.saying = saying;
            this.from = from;
            this.told = told;
        }

        boolean isFor(int ofDay, int q) {
            return day == ofDay && told <= q;
        }

        int part(int what) {
            switch (what) {
                case 0: return writer.number;
                case 1: return day;
                case 2: return sort;
                case 3: return mood;
                case 4: return saying;
                case 5: return from;
                default: return told;
            }
        }
    }

    private static final class Stop {
        private final int person;
        private final int day;
        private final int told;

        Stop(int person, int day, int told) {
            this.person = person;
            this.day = day;
            this.told = told;
        }
    }

    private static final class Happening {
        private final int place;
        private final int day;
        private final int sort;
        private final boolean is;
        private final int told;

        Happening(int place, int day, int sort, boolean is, int told) {
            this.place = place;
            this.day = day;
            this.sort = sort;
            this.is = is;
            this.told = told;
        }

        boolean isOf(int inPlace, int onDay, int ofSort) {
            return place == inPlace && day == onDay && sort == ofSort;
        }
    }

    private static final class Mark {
        private final int reader;
        private final int line;
        private final int value;
        private final int told;

        Mark(int reader, int line, int value, int told) {
            this.reader = reader;
            this.line = line;
            this.value = value;
            this.told = told;
        }
    }

    private static final class Question {
        private final int price;
        private final int sorts;

        Question(int price, int sorts) {
            this.price = price;
            this.sorts = sorts;
        }
    }

    /** A last-in, first-out row; it takes no more than a RULE can need and gives 0 when it is empty. */
    private static final class Numbers {
        private final int[] room = new int[Tape.MOST_SIGNS];
        private int size;

        void clear() {
            size = 0;
        }

        void push(int number) {
            if (size < room.length) {
                room[size] = number;
                size++;
            }
        }

        int pop() {
            if (size <= 0 || size > room.length) {
                return 0;
            }
            size--;
            return room[size];
        }
    }

    /**
     * A RULE as codes: a number as itself, every other sign as less than 0 (its byte, negated), each
     * behind what it works on. A CLAUSE begins with its LABEL and ends with a ; of its own.
     */
    private static final class Rule {
        private static final String LABELS = "qsd";
        private static final int GREATEST = 1000000;

        private final int from;
        private final int told;
        private final int[] codes;

        Rule(int from, int told, int[] codes) {
            this.from = from;
            this.told = told;
            this.codes = codes;
        }

        int worth(char label, int[] letters, Numbers numbers) {
            boolean counts = false;
            numbers.clear();
            for (int code : codes) {
                if (code < 0 && LABELS.indexOf((char) -code) >= 0) {
                    counts = code == -label;
                } else if (counts && code == -';') {
                    return numbers.pop();
                } else if (counts && code == -'?') {
                    counts = numbers.pop() != 0;
                } else if (counts) {
                    work(code, letters, numbers);
                }
            }
            return 0;
        }

        private static void work(int code, int[] letters, Numbers numbers) {
            if (code >= 0) {
                numbers.push(code);
                return;
            }
            char sign = (char) -code;
            int letter = LETTERS.indexOf(sign);
            if (letter >= 0 && letter < letters.length) {
                numbers.push(letters[letter]);
            } else if (sign == '!') {
                numbers.push(numbers.pop() == 0 ? 1 : 0);
            } else {
                int right = numbers.pop();
                int left = numbers.pop();
                numbers.push(joined(sign, left, right));
            }
        }

        private static int joined(char sign, int left, int right) {
            long value;
            switch (sign) {
                case '+': value = (long) left + right; break;
                case '-': value = (long) left - right; break;
                case '*': value = (long) left * right; break;
                case '/': value = right == 0 ? 0 : left / right; break;
                case '=': value = left == right ? 1 : 0; break;
                case '<': value = left < right ? 1 : 0; break;
                case '>': value = left > right ? 1 : 0; break;
                case '&': value = left & right; break;
                default: value = left | right; break;
            }
            return (int) Math.max(-GREATEST, Math.min(GREATEST, value));
        }
    }

    /** The TAPE, and the reading of it as a RULE. */
    private static final class Tape {
        private static final int MOST_SIGNS = 160;
        private static final int DEEPEST = 6;
        private static final int MOST_DIGITS = 4;

        private final char[] signs = new char[MOST_SIGNS];
        private int size;
        private int at;
        // A sign gives one code at most; a CLAUSE's : gives none, which leaves room for its ; at the end.
        private final int[] codes = new int[MOST_SIGNS];
        private int codesSize;

        int length() {
            return size;
        }

        void append(int word) {
            for (int shift = 24; shift >= 0; shift -= 8) {
                int sign = word >>> shift & 255;
                if (sign != 0 && size < signs.length) {
                    signs[size] = (char) sign;
                    size++;
                }
            }
        }

        void cut(int n) {
            if (n >= 0 && n <= size) {
                size = n;
            }
        }

        int[] codesRead() {
            return Arrays.copyOf(codes, codesSize < 0 ? 0 : codesSize);
        }

        /** Where the FAULT is, or NONE: then codesRead has the RULE. */
        int read() {
            at = 0;
            codesSize = 0;
            boolean goesOn = readClause();
            for (int i = 0; i < MOST_SIGNS && goesOn && take(";"); i++) {
                goesOn = readClause();
            }
            return goesOn && at >= size ? NONE : at;
        }

        private boolean readClause() {
            if (!sees(Rule.LABELS)) {
                return false;
            }
            addCode(-takeSign());
            if (!take(":")) {
                return false;
            }
            boolean hasCondition = sees("!(");
            boolean goesOn = hasCondition ? readCondition(0) : readSum(0);
            // Only the sign behind a SUM tells whether that SUM began a CONDITION.
            if (!hasCondition && goesOn && sees("=<>")) {
                hasCondition = true;
                goesOn = readComparison(0) && readMoreUnits(0) && readMoreParts(0);
            }
            if (hasCondition && goesOn) {
                goesOn = take("?");
                addCode(-'?');
                goesOn = goesOn && readSum(0);
            }
            addCode(-';');
            return goesOn;
        }

        private boolean readCondition(int depth) {
            return readPart(depth) && readMoreParts(depth);
        }

        private boolean readMoreParts(int depth) {
            for (int i = 0; i < MOST_SIGNS && sees("|"); i++) {
                char sign = takeSign();
                if (!readPart(depth)) {
                    return false;
                }
                addCode(-sign);
            }
            return true;
        }

        private boolean readPart(int depth) {
            return readUnit(depth) && readMoreUnits(depth);
        }

        private boolean readMoreUnits(int depth) {
            for (int i = 0; i < MOST_SIGNS && sees("&"); i++) {
                char sign = takeSign();
                if (!readUnit(depth)) {
                    return false;
                }
                addCode(-sign);
            }
            return true;
        }

        // A sign that would go too deep is left to readAtom, which refuses it where it stands.
        private boolean readUnit(int depth) {
            int deeper = depth;
            while (deeper < DEEPEST && take("!")) {
                deeper++;
            }
            boolean goesOn;
            if (deeper < DEEPEST && take("(")) {
                goesOn = readCondition(deeper + 1) && take(")");
            } else {
                goesOn = readSum(deeper) && readComparison(deeper);
            }
            for (int i = depth; i < deeper; i++) {
                addCode(-'!');
            }
            return goesOn;
        }

        private boolean readComparison(int depth) {
            if (!sees("=<>")) {
                return false;
            }
            char sign = takeSign();
            if (!readSum(depth)) {
                return false;
            }
            addCode(-sign);
            return true;
        }

        private boolean readSum(int depth) {
            boolean goesOn = readTerm(depth);
            for (int i = 0; i < MOST_SIGNS && goesOn && sees("+-"); i++) {
                char sign = takeSign();
                goesOn = readTerm(depth);
                addCode(-sign);
            }
            return goesOn;
        }

        private boolean readTerm(int depth) {
            boolean goesOn = readAtom(depth);
            for (int i = 0; i < MOST_SIGNS && goesOn && sees("*/"); i++) {
                char sign = takeSign();
                goesOn = readAtom(depth);
                addCode(-sign);
            }
            return goesOn;
        }

        private boolean readAtom(int depth) {
            if (depth < DEEPEST && take("[")) {
                return readSum(depth + 1) && take("]");
            }
            if (sees(LETTERS)) {
                addCode(-takeSign());
                return true;
            }
            return readNumber();
        }

        private boolean readNumber() {
            int number = 0;
            int digits = 0;
            while (digits < MOST_DIGITS && at < size && isWithin(signs[at], '0', '9')) {
                number = number * 10 + signs[at] - '0';
                digits++;
                at++;
            }
            if (digits > 0) {
                addCode(number);
            }
            return digits > 0;
        }

        // Blanks are left behind here, ahead of every sign but a number's later digits; so they may stand
        // ahead of the first sign and behind the last one too.
        private boolean sees(String oneOf) {
            while (at < size && signs[at] == ' ') {
                at++;
            }
            return at < size && oneOf.indexOf(signs[at]) >= 0;
        }

        private boolean take(String sign) {
            boolean isThere = sees(sign);
            if (isThere) {
                at++;
            }
            return isThere;
        }

        private char takeSign() {
            if (at >= size) {
                return ' ';
            }
            at++;
            return signs[at - 1];
        }

        private void addCode(int code) {
            if (codesSize < codes.length) {
                codes[codesSize] = code;
                codesSize++;
            }
        }
    }

    /** The LINES of some DAYS in the order of DAYS, then numbers, and where their MOOD turned. */
    private static final class Turn {
        private final int[] days = new int[MOST_LINES];
        private final int[] moods = new int[MOST_LINES];
        private int size;

        void clear() {
            size = 0;
        }

        // LINES come by their numbers: one goes behind those of its own DAY.
        void add(int day, int mood) {
            if (size >= days.length) {
                return;
            }
            int at = size;
            while (at > 0 && days[at - 1] > day) {
                days[at] = days[at - 1];
                moods[at] = moods[at - 1];
                at--;
            }
            days[at] = day;
            moods[at] = mood;
            size++;
        }

        /** How many LINES stand ahead of the DAY of the TURN; NONE without. */
        int split() {
            int best = NONE;
            long bestDistance = 0;
            long bestScale = 1;
            int all = sumAhead(size);
            int sum = 0;
            for (int ahead = 1; ahead < size; ahead++) {
                sum += moods[ahead - 1];
                if (days[ahead - 1] == days[ahead]) {
                    continue;
                }
                long distance = distance(sum, all, ahead);
                long scale = (long) ahead * (size - ahead);
                if (best == NONE || distance * bestScale > bestDistance * scale) {
                    best = ahead;
                    bestDistance = distance;
                    bestScale = scale;
                }
            }
            return best;
        }

        /** The least DAY that has so many LINES ahead of it. */
        int dayAt(int split) {
            return isWithin(split, 1, size) ? days[split - 1] + 1 : NONE;
        }

        int chanceAt(int split) {
            if (!isWithin(split, 1, size - 1)) {
                return NONE;
            }
            int all = sumAhead(size);
            int sum = sumAhead(split);
            long trueDistance = distance(sum, all, split);
            int found = 0;
            for (int moved = 0; moved < size; moved++) {
                if (distance(sum, all, split) >= trueDistance) {
                    found++;
                }
                int next = moved + split < size ? moved + split : moved + split - size;
                sum += moods[next] - moods[moved];
            }
            return found;
        }

        private int sumAhead(int count) {
            int sum = 0;
            for (int i = 0; i < count && i < moods.length; i++) {
                sum += moods[i];
            }
            return sum;
        }

        // The distance of both means, times how many LINES stand on the one side and on the other.
        private long distance(int sum, int all, int ahead) {
            long behind = size - ahead;
            return Math.abs(sum * behind - (all - sum) * (long) ahead);
        }
    }

    /** WATCHERS, WANTED ones, and who sees whom. */
    private static final class Table {
        private static final int MOST_WATCHERS = 4;
        private static final int MOST_WANTED = 8;

        private final int[] from = new int[MOST_WATCHERS];
        private final int[] to = new int[MOST_WATCHERS];
        private int watchers;
        private final int[] places = new int[MOST_WANTED];
        private final int[] hours = new int[MOST_WANTED];
        private int wanted;
        private final int[] tried = new int[MOST_WANTED];
        private final int[] best = new int[MOST_WANTED];
        private int seen;

        int watchers() {
            return watchers;
        }

        int wanted() {
            return wanted;
        }

        int seen() {
            return seen;
        }

        int watcherOf(int one) {
            return isWithin(one, 0, wanted - 1) && one < best.length ? best[one] : NONE;
        }

        int addWatcher(int fromHour, int toHour) {
            if (watchers >= MOST_WATCHERS) {
                return NONE;
            }
            from[watchers] = fromHour;
            to[watchers] = toHour;
            watchers++;
            planAnew();
            return watchers - 1;
        }

        int addWanted(int place, int hour) {
            if (wanted >= MOST_WANTED) {
                return NONE;
            }
            places[wanted] = place;
            hours[wanted] = hour;
            wanted++;
            planAnew();
            return wanted - 1;
        }

        // Done when something comes, at most twelve times in all, so that asking costs nothing.
        private void planAnew() {
            seen = NONE;
            tryFrom(this, 0, 0);
        }

        // Tables come in their order of preference: a later one is better only if it sees more.
        private static void tryFrom(Table table, int one, int seenSoFar) {
            if (one > MOST_WANTED || seenSoFar + table.wanted - one <= table.seen) {
                return;
            }
            if (one >= table.wanted) {
                table.seen = seenSoFar;
                System.arraycopy(table.tried, 0, table.best, 0, MOST_WANTED);
                return;
            }
            for (int watcher = 0; watcher < table.watchers; watcher++) {
                if (table.canSee(watcher, one)) {
                    table.tried[one] = watcher;
                    tryFrom(table, one + 1, seenSoFar + 1);
                }
            }
            table.tried[one] = NONE;
            tryFrom(table, one + 1, seenSoFar);
        }

        private boolean canSee(int watcher, int one) {
            if (!isWithin(hours[one], from[watcher], to[watcher])) {
                return false;
            }
            for (int other = 0; other < one; other++) {
                if (tried[other] == watcher && !canBothBeSeen(one, other)) {
                    return false;
                }
            }
            return true;
        }

        private boolean canBothBeSeen(int one, int other) {
            int apart = Math.abs(hours[one] - hours[other]);
            return apart >= (places[one] == places[other] ? 1 : 2);
        }
    }
}
