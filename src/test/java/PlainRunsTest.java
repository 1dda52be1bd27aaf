import java.util.NoSuchElementException;
import java.util.Random;

/** Runs of 512 calls, each answer held against PlainHouse's; and texts, their FAULTS held against its grammar's. */
public final class PlainRunsTest {
    private static final int RUNS = 400;
    private static final int TEXTS = 6000;
    private static final int TABLES = 60;
    private static final int ROUNDS = 300;
    /** Arguments that no call takes, or few. */
    private static final int[] ODD = {Integer.MIN_VALUE, Integer.MAX_VALUE, -1000000, -2, -1, 24, 200, 1000,
        1001, 9999, 10000, 65536};

    private final Random random;
    private final DiaryHouse house = new DiaryHouse();
    private final PlainHouse plain = new PlainHouse();
    /** The DAYS that a run speaks of most: few, so that things meet. */
    private final int spread;

    private PlainRunsTest(int seed) {
        random = new Random(seed);
        spread = 2 + random.nextInt(8);
    }

    public static void main(String[] args) {
        for (int seed = 0; seed < RUNS; seed++) {
            PlainRunsTest run = new PlainRunsTest(seed);
            for (int call = 0; call < 512; call++) {
                run.step("run " + seed + ", call " + call + ": ", call);
            }
        }
        for (int seed = 0; seed < TABLES; seed++) {
            new PlainRunsTest(seed).fullTable("table " + seed + ": ");
        }
        for (int seed = 0; seed < ROUNDS; seed++) {
            new PlainRunsTest(seed).allBought("questions " + seed + ": ");
            new PlainRunsTest(seed).fewTurns("turns " + seed + ": ");
        }
        PlainRunsTest texts = new PlainRunsTest(RUNS);
        PlainGrammar grammar = new PlainGrammar();
        for (int i = 0; i < TEXTS; i++) {
            String text = texts.text();
            Due.fault(text, grammar.faultOf(text));
        }
        Due.end();
    }

    private void fullTable(String at) {
        int hours = 3 + random.nextInt(9);
        int places = 1 + random.nextInt(4);
        for (int i = 1 + random.nextInt(4); i > 0; i--) {
            int from = random.nextInt(hours);
            int to = from + random.nextInt(hours);
            Due.is(at + "watcher", house.watcher(from, to), plain.watcher(from, to));
        }
        for (int i = 0; i < 8; i++) {
            int place = random.nextInt(places);
            int hour = random.nextInt(hours);
            Due.is(at + "want", house.want(place, hour), plain.want(place, hour));
        }
        int[] table = plain.bestTable();
        for (int one = 0; one < 8; one++) {
            Due.is(at + "table(" + one + ")", house.table(one), table[one]);
        }
    }

    private void allBought(String at) {
        for (int i = 1 + random.nextInt(8); i > 0; i--) {
            int price = 1 + random.nextInt(4);
            int sorts = random.nextInt(32);
            Due.is(at + "question", house.question(price, sorts), plain.question(price, sorts));
        }
        for (int coin = 0; coin < 24; coin++) {
            Due.is(at + "buy(" + coin + ")", house.buy(coin), plain.buy(coin));
        }
    }

    private void fewTurns(String at) {
        house.person(0, 20, 0);
        plain.person(0, 20, 0);
        house.days(9);
        plain.days(9);
        for (int i = 2 + random.nextInt(7); i > 0; i--) {
            int day = random.nextInt(10);
            int mood = random.nextInt(5) - 2;
            house.line(0, day, 0, mood, -1, -1);
            plain.line(0, day, 0, mood, -1, -1);
        }
        for (int from = 0; from < 9; from++) {
            for (int to = from; to <= 9; to++) {
                String call = at + "turn(" + from + ", " + to + ", 9, ";
                Due.is(call + "0)", house.turn(from, to, 9, 0), plain.turn(from, to, 9, 0));
                Due.is(call + "1)", house.turn(from, to, 9, 1), plain.turn(from, to, 9, 1));
            }
        }
    }

    private int upTo(int most) {
        return random.nextInt(200) == 0 ? ODD[random.nextInt(ODD.length)]
                : random.nextInt(60) == 0 ? random.nextInt(2) == 0 ? -1 : most + 1 : random.nextInt(most + 1);
    }

    private int day() {
        return random.nextInt(10) == 0 ? upTo(1000)
                : Math.max(0, plain.now - random.nextInt(spread)) + random.nextInt(2);
    }

    private int q() {
        return random.nextInt(2) == 0 ? plain.now : upTo(plain.now);
    }

    private int aPerson() {
        return upTo(Math.max(0, plain.persons.size() - 1));
    }

    private int aLine() {
        return upTo(Math.max(0, plain.lines.size() - 1));
    }

    private int saying() {
        return random.nextInt(3) == 0 ? -1 : random.nextInt(10) == 0 ? upTo(29) : random.nextInt(3);
    }

    private int sort() {
        return random.nextInt(4) == 0 ? upTo(9) : random.nextInt(3);
    }

    private void step(String at, int call) {
        if (random.nextInt(100) < (call < 250 ? 75 : 15)) {
            tell(at);
        } else if (random.nextBoolean()) {
            askOfLines(at);
        } else {
            askOfOthers(at);
        }
    }

    private void tell(String at) {
        switch (random.nextInt(36)) {
            case 0 -> {
                int n = random.nextInt(20) == 0 ? upTo(400) : random.nextInt(2);
                Due.is(at + "days(" + n + ")", house.days(n), plain.days(n));
            }
            case 1, 2, 3 -> {
                int place = random.nextInt(3) == 0 ? upTo(7) : random.nextInt(2);
                int age = random.nextBoolean() ? 10 + upTo(89) : 20 + random.nextInt(8);
                int work = random.nextInt(3) == 0 ? upTo(7) : random.nextInt(2);
                Due.is(at + "person", house.person(place, age, work), plain.person(place, age, work));
            }
            case 4, 5 -> {
                int person = aPerson();
                int day = day();
                if (random.nextInt(4) == 0) {
                    Due.is(at + "stop", house.stop(person, day), plain.stop(person, day));
                }
            }
            case 6, 7, 8 -> tellRule(at);
            case 9, 10, 11 -> {
                int place = random.nextInt(4) == 0 ? upTo(7) : random.nextInt(2);
                int day = day();
                int sort = sort();
                boolean is = random.nextBoolean();
                Due.is(at + "happen", house.happen(place, day, sort, is), plain.happen(place, day, sort, is));
            }
            case 12, 13, 14, 15, 16, 17 -> {
                int reader = upTo(5);
                int line = random.nextInt(3) == 0 ? aLine() : upTo(3);
                int v = random.nextInt(3) == 0 ? upTo(9) : random.nextInt(3);
                Due.is(at + "mark", house.mark(reader, line, v), plain.mark(reader, line, v));
            }
            case 18, 19 -> {
                int place = random.nextInt(2) == 0 ? upTo(7) : random.nextInt(2);
                int stratum = upTo(3);
                int people = random.nextInt(3) == 0 ? upTo(9999) : random.nextInt(5);
                Due.is(at + "land", house.land(place, stratum, people), plain.land(place, stratum, people));
            }
            case 20 -> tellOthers(at);
            default -> tellLine(at);
        }
    }

    private void tellOthers(String at) {
        int from = random.nextInt(3) == 0 ? upTo(23) : random.nextInt(6);
        int to = from + random.nextInt(8);
        switch (random.nextInt(3)) {
            case 0 -> Due.is(at + "watcher", house.watcher(from, to), plain.watcher(from, to));
            case 1 -> {
                int place = random.nextInt(3);
                Due.is(at + "want", house.want(place, from), plain.want(place, from));
            }
            default -> {
                int price = random.nextInt(3) == 0 ? upTo(50) : 1 + random.nextInt(4);
                int sorts = random.nextInt(3) == 0 ? upTo(1023) : 1 << random.nextInt(4);
                Due.is(at + "question", house.question(price, sorts), plain.question(price, sorts));
            }
        }
    }

    private void tellLine(String at) {
        int person = aPerson();
        int day = random.nextInt(20) == 0 ? day() : Math.max(0, plain.now - random.nextInt(spread));
        int sort = sort();
        int mood = random.nextInt(30) == 0 ? upTo(10) : random.nextInt(19) - 9;
        int saying = saying();
        int from = saying < 0 && random.nextInt(10) > 0 || random.nextInt(4) == 0 ? -1 : aPerson();
        Due.is(at + "line(" + person + ", " + day + ", " + sort + ", " + mood + ", " + saying + ", " + from + ")",
                house.line(person, day, sort, mood, saying, from), plain.line(person, day, sort, mood, saying, from));
    }

    private void tellRule(String at) {
        switch (random.nextInt(8)) {
            case 0 -> {
                int n = upTo(plain.tape.length());
                Due.is(at + "end(" + n + ")", house.end(n), plain.end(n));
            }
            case 1 -> Due.is(at + "fault() of \"" + plain.tape + "\"", house.fault(), plain.fault());
            case 2, 3, 4 -> {
                int from = random.nextInt(3) == 0 ? 0 : day();
                Due.is(at + "rule(" + from + ") of \"" + plain.tape + "\"", house.rule(from), plain.rule(from));
            }
            default -> {
                if (random.nextInt(5) > 0) {
                    Due.is(at + "end(0)", house.end(0), plain.end(0));
                }
                String text = text();
                for (int from = 0; from < text.length(); from += 20) {
                    int[] w = Due.words(text, from);
                    Due.is(at + "feed", house.feed(w[0], w[1], w[2], w[3], w[4]),
                            plain.feed(w[0], w[1], w[2], w[3], w[4]));
                }
            }
        }
    }

    private void askOfLines(String at) {
        int line = aLine();
        int person = aPerson();
        int of = day();
        int day = random.nextInt(10) == 0 ? day() : of + random.nextInt(spread);
        int rank = upTo(9);
        int q = q();
        int i = random.nextInt(8) - 2;
        String args = "(line " + line + ", person " + person + ", of " + of + ", day " + day + ", rank " + rank
                + ", q " + q + ", i " + i + ")";
        at = at + args + " ";
        switch (random.nextInt(17)) {
            case 0 -> Due.is(at + "told", told(line, i), plainTold(line, i));
            case 1 -> Due.is(at + "stopped", house.stopped(person, q), plain.stopped(person, q));
            case 2 -> Due.is(at + "force", house.force(day, q), plain.force(day, q));
            case 3 -> Due.is(at + "asked", house.asked(person, day, rank, q), plain.asked(person, day, rank, q));
            case 4, 5 -> Due.is(at + "shown", house.shown(line, day, rank, q), plain.shown(line, day, rank, q));
            case 6, 7, 8 -> Due.is(at + "digest", house.digest(of, day, rank, q, i),
                    plain.digest(of, day, rank, q, i));
            case 9 -> Due.is(at + "left", house.left(of, day, rank, q), plain.left(of, day, rank, q));
            case 10 -> Due.is(at + "truth", house.truth(line, q), plain.truth(line, q));
            case 11 -> Due.is(at + "mood", house.mood(of, q, i), plain.mood(of, q, i));
            case 12 -> Due.is(at + "last", house.last(person, q), plain.last(person, q));
            case 13 -> {
                int saying = saying();
                Due.is(at + "bearers " + saying, house.bearers(saying, q), plain.bearers(saying, q));
            }
            default -> {
                int saying = saying();
                Due.is(at + "way " + saying, house.way(person, saying, q, i), plain.way(person, saying, q, i));
            }
        }
    }

    private void askOfOthers(String at) {
        int line = random.nextInt(3) == 0 ? aLine() : upTo(3);
        int reader = upTo(5);
        int other = upTo(5);
        int q = q();
        int sort = sort();
        int from = Math.max(0, plain.now - random.nextInt(3 * spread));
        int day = random.nextInt(20) == 0 ? day() : from + random.nextInt(3 * spread);
        int what = random.nextInt(5) - 1;
        long seed = random.nextLong();
        int n = random.nextInt(20) == 0 ? upTo(24) : 1 + random.nextInt(Math.max(1, plain.persons.size()));
        int coin = random.nextInt(3) == 0 ? upTo(400) : random.nextInt(20);
        int bits = random.nextInt(3) == 0 ? upTo(255) : random.nextInt(1 << plain.questions.size());
        switch (random.nextInt(20)) {
            case 0 -> Due.is(at + "marked", house.marked(reader, line, q), plain.marked(reader, line, q));
            case 1, 2 -> Due.is(at + "agree", house.agree(reader, other, q, what % 2),
                    plain.agree(reader, other, q, what % 2));
            case 3 -> Due.is(at + "habit", house.habit(reader, q), plain.habit(reader, q));
            case 4, 5 -> Due.is(at + "held", house.held(line, q), plain.held(line, q));
            case 6, 7 -> Due.is(at + "span", house.span(sort, from, q, what), plain.span(sort, from, q, what));
            case 8, 9, 10 -> Due.is(at + "turn(" + from + ", " + day + ", " + q + ", " + what % 3 + ")",
                    house.turn(from, day, q, what % 3), plain.turn(from, day, q, what % 3));
            case 11 -> Due.is(at + "lean", house.lean(sort, q), plain.lean(sort, q));
            case 12 -> {
                if (plain.wanted.size() < 7 || random.nextInt(10) == 0) {
                    int one = random.nextInt(plain.wanted.size() + 3) - 2;
                    Due.is(at + "table(" + one + ")", house.table(one), plain.table(one));
                }
            }
            case 13 -> Due.is(at + "alike", house.alike(n, sort), plain.alike(n, sort));
            case 14 -> Due.is(at + "hide " + what, house.hide(what), plain.hide(what));
            case 15 -> Due.is(at + "buy(" + coin + ")", house.buy(coin), plain.buy(coin));
            case 16 -> Due.is(at + "judge", house.judge(bits, coin), plain.judge(bits, coin));
            case 17 -> Due.is(at + "lot", house.lot(n, seed, reader), plain.lot(n, seed, reader));
            case 18 -> Due.is(at + "beside", house.beside(n, seed, from), plain.beside(n, seed, from));
            default -> {
                int counted = upTo(11);
                Due.is(at + "count(" + counted + ")", house.count(counted), plain.count(counted));
            }
        }
    }

    private long told(int line, int what) {
        try {
            return house.told(line, what);
        } catch (NoSuchElementException e) {
            return Long.MIN_VALUE;
        }
    }

    private long plainTold(int line, int what) {
        try {
            return plain.told(line, what);
        } catch (NoSuchElementException e) {
            return Long.MIN_VALUE;
        }
    }

    // ---- texts: most without a FAULT, some with a sign changed, left out or put in

    private String text() {
        StringBuilder text = new StringBuilder();
        int clauses = 1 + random.nextInt(5);
        for (int i = 0; i < clauses; i++) {
            StringBuilder clause = new StringBuilder(i == 0 ? "" : ";");
            clause.append("qsd".charAt(random.nextInt(3))).append(':');
            if (random.nextInt(3) > 0) {
                condition(clause, random.nextInt(8) == 0 ? 0 : 4);
                clause.append('?');
            }
            sum(clause, random.nextInt(8) == 0 ? 0 : 4);
            if (text.length() + clause.length() <= 120) {
                text.append(clause);
            }
        }
        if (text.isEmpty()) {
            text.append("s:1;d:r");
        }
        for (int blanks = random.nextInt(4) == 0 ? random.nextInt(8) : 0; blanks > 0; blanks--) {
            text.insert(random.nextInt(text.length() + 1), ' ');
        }
        if (random.nextInt(4) == 0) {
            damage(text);
        }
        return text.toString();
    }

    private void damage(StringBuilder text) {
        String signs = "qsd:;?|&!()[]=<>+-*/apwtkmer0123456789 x\u00e9";
        int at = random.nextInt(text.length());
        switch (random.nextInt(4)) {
            case 0 -> text.setLength(at);
            case 1 -> text.deleteCharAt(at);
            case 2 -> text.setCharAt(at, signs.charAt(random.nextInt(signs.length())));
            default -> {
                String more = "" + signs.charAt(random.nextInt(signs.length()));
                text.insert(at, more.repeat(1 + random.nextInt(random.nextInt(4) == 0 ? 8 : 1)));
            }
        }
    }

    private void condition(StringBuilder text, int depth) {
        for (int i = random.nextInt(4) == 0 ? 2 : 1; i > 0; i--) {
            for (int j = random.nextInt(4) == 0 ? 2 : 1; j > 0; j--) {
                unit(text, depth);
                text.append(j > 1 ? "&" : "");
            }
            text.append(i > 1 ? "|" : "");
        }
    }

    private void unit(StringBuilder text, int depth) {
        int kind = depth < 6 ? random.nextInt(6) : 5;
        if (kind == 0) {
            text.append('!');
            unit(text, depth + 1);
        } else if (kind == 1) {
            text.append('(');
            condition(text, depth + 1);
            text.append(')');
        } else {
            sum(text, depth);
            text.append("=<>".charAt(random.nextInt(3)));
            sum(text, depth);
        }
    }

    private void sum(StringBuilder text, int depth) {
        for (int i = random.nextInt(3) == 0 ? 2 + random.nextInt(2) : 1; i > 0; i--) {
            for (int j = random.nextInt(3) == 0 ? 2 + random.nextInt(2) : 1; j > 0; j--) {
                atom(text, depth);
                text.append(j > 1 ? random.nextBoolean() ? "*" : "/" : "");
            }
            text.append(i > 1 ? random.nextBoolean() ? "+" : "-" : "");
        }
    }

    private void atom(StringBuilder text, int depth) {
        int kind = random.nextInt(8);
        if (kind == 0 && depth < 6) {
            text.append('[');
            sum(text, depth + 1);
            text.append(']');
        } else if (kind < 5) {
            text.append("apwtkmer".charAt(random.nextInt(8)));
        } else {
            text.append(random.nextInt(4) == 0 ? random.nextInt(10000) : random.nextInt(12));
        }
    }
}
