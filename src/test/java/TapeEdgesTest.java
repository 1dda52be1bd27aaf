/** The edges that the document names for promises 8 to 11: each at the edge and a step beyond it. */
public final class TapeEdgesTest {
    private static final int Q = 'q' << 24;

    public static void main(String[] args) {
        feedOrder();
        feedZeros();
        feedAnyByte();
        feedFull();
        endWithin();
        endCuts();
        faultOrNone();
        faultOfTooEarlyAnEnd();
        clauses();
        labels();
        conditions();
        units();
        notsAndRounds();
        sums();
        numbers();
        letters();
        clauseOfACondition();
        blanks();
        blanksInNumbers();
        bracketsWithin();
        roundsWithin();
        notsWithin();
        mixedWithin();
        besideOneAnother();
        faultFirst();
        fullTape();
        ruleFrom();
        ruleOfAFault();
        ruleEmpties();
        rulesFull();
        Due.end();
    }

    /** Promise 8: "Twenty bytes more come to the TAPE (of each number the highest first; bytes of 0 are left
     * out): how many it has." */
    private static void feedOrder() {
        DiaryHouse x = new DiaryHouse();
        x.person(0, 20, 0);
        // q:12/ 3=4? 5;s: 6789 by all twenty bytes; each must be in its place
        Due.is("feed of twenty", x.feed(0x713A3132, 0x2F333D34, 0x3F353B73, 0x3A363738, 0x392B312B), 20);
        Due.is("its FAULT", x.fault(), 20);
        Due.is("feed of one more", x.feed(0, 0, 0, 0, '1'), 21);
        Due.is("its FAULT then", x.fault(), -1);
        Due.is("its RULE", x.rule(0), 0);
        Due.is("asked by 12/3=4?5", x.asked(0, 0, 0, 0), 1);
    }

    /** Promise 8: "bytes of 0 are left out" */
    private static void feedZeros() {
        new Scene().is("feed(0, 0, 0, 0, 0)", 0);
        for (int word = 0; word < 5; word++) {
            for (int shift = 0; shift < 32; shift += 8) {
                int[] w = new int[5];
                w[word] = 1 << shift;
                DiaryHouse x = new DiaryHouse();
                Due.is("feed of one byte", x.feed(w[0], w[1], w[2], w[3], w[4]), 1);
                Due.is("bytes", x.count(9), 1);
                w[word] = ~(255 << shift);
                for (int i = 0; i < 5; i++) {
                    w[i] = i == word ? w[i] : -1;
                }
                Due.is("feed of all but one", x.feed(w[0], w[1], w[2], w[3], w[4]), 20);
            }
        }
        Scene apart = new Scene("feed(" + Q + ", 0, 0, 0, 58)", "feed(0, 0, " + 0x00310000 + ", 0, 0)");
        apart.is("count(9)", 3);
        apart.is("fault()", -1);
    }

    /** Promise 8: "Twenty bytes more come to the TAPE" (bytes that no RULE has are bytes too) */
    private static void feedAnyByte() {
        for (int one = 1; one < 256; one++) {
            DiaryHouse x = new DiaryHouse();
            Due.is("feed of byte " + one, x.feed(one << 24, 0, 0, 0, one), 2);
            boolean isLabel = one == 'q' || one == 's' || one == 'd';
            Due.is("its FAULT", x.fault(), isLabel ? 1 : one == ' ' ? 2 : 0);
        }
    }

    /** Promise 8: "NONE: more than 160." */
    private static void feedFull() {
        Scene s = new Scene().times(7, "feed(-1, -1, -1, -1, -1)");
        s.is("count(9)", 140);
        s.is("feed(-1, -1, -1, -1, -1)", 160);
        s.is("feed(-1, -1, -1, -1, 255)", 157);
        Scene more = s.then("feed(0, 0, 0, 0, 1)");
        more.refuses("feed(-1, -1, -1, -1, -1)", -1);
        more.is("feed(-1, -1, -1, -1, -256)", 160);
        more.is("feed(16777215, -1, -1, -1, -1)", 160);
        Scene almost = s.then("feed(-1, -1, -1, -1, -256)");
        almost.is("count(9)", 159);
        almost.is("feed(0, 0, 1, 0, 0)", 160);
        almost.refuses("feed(0, 0, 257, 0, 0)", -1);
        almost.refuses("feed(1, 0, 0, 0, 1)", -1);
        Scene full = almost.then("feed(0, 0, 0, 0, 1)");
        full.is("feed(0, 0, 0, 0, 0)", 160);
        for (int shift = 0; shift < 32; shift += 8) {
            full.refuses("feed(0, 0, 0, 0, " + (1 << shift) + ")", -1);
        }
        full.refuses("feed(-1, -1, -1, -1, -1)", -1);
        full.then("end(140)").is("feed(-1, -1, -1, -1, -1)", 160);
        full.then("end(141)").refuses("feed(-1, -1, -1, -1, -1)", -1);
        full.then("end(0)").is("feed(-1, -1, -1, -1, -1)", 20);
    }

    /** Promise 9: "The TAPE has its first n bytes alone. False: n." */
    private static void endWithin() {
        new Scene().bounds("end(%)", 0, 0, 0);
        new Scene().tape("q:1+2").bounds("end(%)", 0, 5, 0);
        new Scene().times(8, "feed(-1, -1, -1, -1, -1)").bounds("end(%)", 0, 160, 0);
        new Scene().tape("q:1+2").then("rule(0)").bounds("end(%)", 0, 0, 0);
    }

    /** Promise 9: "The TAPE has its first n bytes alone." */
    private static void endCuts() {
        Scene s = new Scene().tape("q:1+2");
        s.then("end(5)").is("count(9)", 5);
        s.then("end(4)").is("count(9)", 4);
        s.then("end(4)").is("fault()", 4);
        s.then("end(3)").is("fault()", -1);
        s.then("end(0)").is("count(9)", 0);
        s.then("end(3)").refuses("end(4)", 0);
        s.then("end(4)").tape("a").is("fault()", -1);
        s.then("end(3)").tape(";").is("fault()", 4);
    }

    /** Promise 10: "The FAULT of the TAPE; NONE." */
    private static void faultOrNone() {
        Scene s = new Scene().tape("q:1x");
        s.is("fault()", 3);
        s.then("end(3)").is("fault()", -1);
        s.then("end(3)").is("count(9)", 3);
        DiaryHouse x = new DiaryHouse();
        Due.feed(x, "q:1");
        Due.is("fault()", x.fault(), -1);
        Due.is("fault() again", x.fault(), -1);
        Due.is("rule(0) once asked", x.rule(0), 0);
        Due.is("fault() of an empty TAPE", x.fault(), 0);
    }

    /** Promise 10: "(the length, if it ends too early)" */
    private static void faultOfTooEarlyAnEnd() {
        String whole = "q:!([a+1]*p=2|w<3)&t>4?k/5;s:m";
        boolean[] isRule = new boolean[whole.length() + 1];
        isRule["q:!([a+1]*p=2|w<3)&t>4?k".length()] = true;
        isRule["q:!([a+1]*p=2|w<3)&t>4?k/5".length()] = true;
        isRule[whole.length()] = true;
        for (int n = 0; n <= whole.length(); n++) {
            Due.fault(whole.substring(0, n), isRule[n] ? -1 : n);
        }
    }

    /** Promise 10: "CLAUSES with ; between, one at least: a LABEL (q s d), a : , perhaps CONDITION ?, then SUM." */
    private static void clauses() {
        Due.fault("", 0);
        Due.fault("q:1", -1);
        Due.fault(";q:1", 0);
        Due.fault("q:1;", 4);
        Due.fault("q:1;q:1", -1);
        Due.fault("q:1;;q:1", 4);
        Due.fault("q:1;q:1;", 8);
        Due.fault("q:1q:1", 3);
        Due.fault("q:1:1", 3);
        Due.fault("q:;", 2);
        Due.fault("q::1", 2);
        Due.fault("q1", 1);
        Due.fault("q:?1", 2);
        Due.fault("q:1=1?;", 6);
        Due.fault("q:1=1?1?1", 7);
        Due.fault("q:1=1?1=1", 7);
        Due.fault("q:1=1?1;q:2", -1);
    }

    /** Promise 10: "a LABEL (q s d), a :" (and no other sign) */
    private static void labels() {
        for (char sign = 1; sign < 256; sign++) {
            boolean isLabel = "qsd".indexOf(sign) >= 0;
            Due.fault(sign + ":1", isLabel ? -1 : sign == ' ' ? 1 : 0);
            Due.fault("q:1;" + sign + ":1", isLabel ? -1 : sign == ' ' ? 5 : 4);
            Due.fault("s" + sign + "1", sign == ':' ? -1 : sign == ' ' ? 2 : 1);
        }
    }

    /** Promise 10: "CONDITION: PARTS with | between; PART: UNITS with & between" */
    private static void conditions() {
        Due.fault("q:a=1|p=2?1", -1);
        Due.fault("q:a=1&p=2?1", -1);
        Due.fault("q:a=1|p=2&w=3|k=4&m=5?1", -1);
        Due.fault("q:|a=1?1", 2);
        Due.fault("q:&a=1?1", 2);
        Due.fault("q:a=1|?1", 6);
        Due.fault("q:a=1&?1", 6);
        Due.fault("q:a=1||p=2?1", 6);
        Due.fault("q:a=1&&p=2?1", 6);
        Due.fault("q:a=1|&p=2?1", 6);
        Due.fault("q:a|p=2?1", 3);
        Due.fault("q:a=1|p&w=2?1", 7);
        Due.fault("q:1|1", 3);
        Due.fault("q:a=1?1|1", 7);
        Due.fault("q:(a=1|p=2&w=3)?1", -1);
        Due.fault("q:(a=1|)?1", 7);
        Due.fault("q:(|a=1)?1", 3);
    }

    /** Promise 10: "UNIT: ! UNIT, ( CONDITION ), or SUM, one of = < >, SUM." */
    private static void units() {
        for (char sign = 33; sign < 256; sign++) {
            boolean compares = "=<>".indexOf(sign) >= 0;
            // behind one sign of it a SUM comes, and no second sign
            boolean joins = "+-*/".indexOf(sign) >= 0;
            boolean isDigit = sign >= '0' && sign <= '9';
            boolean goesOn = joins || isDigit;
            Due.fault("q:1" + sign + "2?3", compares ? -1 : goesOn ? 5 : sign == ';' ? 4 : 3);
            boolean beginsAnother = sign == '|' || sign == '&' || sign == '?';
            Due.fault("q:1=2" + sign + "3?4", goesOn ? -1 : beginsAnother ? 7 : 5);
        }
        Due.fault("q:a==1?1", 4);
        Due.fault("q:a<>1?1", 4);
        Due.fault("q:=1?1", 2);
    }

    /** Promise 10: "UNIT: ! UNIT, ( CONDITION )" */
    private static void notsAndRounds() {
        Due.fault("q:!a=1?1", -1);
        Due.fault("q:!(a=1)?1", -1);
        Due.fault("q:!!a=1?1", -1);
        Due.fault("q:!?1", 3);
        Due.fault("q:!;", 3);
        Due.fault("q:!1?1", 4);
        Due.fault("q:()?1", 3);
        Due.fault("q:(1)?1", 4);
        Due.fault("q:(a=1?1", 6);
        Due.fault("q:(a=1]?1", 6);
        Due.fault("q:(a=1))?1", 7);
        Due.fault("q:(a=1)=1?1", 7);
        Due.fault("q:(a=1)(p=1)?1", 7);
        Due.fault("q:(a=1)!p=1?1", 7);
        Due.fault("q:a=1!p=1?1", 5);
        Due.fault("q:a=(1)?1", 4);
    }

    /** Promise 10: "SUM: TERMS with + or - between; TERM: ATOMS with * or / between; ATOM: a number (1 to 4
     * digits), a letter, [ SUM ]." */
    private static void sums() {
        Due.fault("q:1+2-3*4/5", -1);
        Due.fault("q:[1]", -1);
        Due.fault("q:[1+2]*[3-4]", -1);
        for (String sign : new String[] {"+", "-", "*", "/"}) {
            Due.fault("q:1" + sign + "2", -1);
            Due.fault("q:" + sign + "2", 2);
            Due.fault("q:1" + sign, 4);
            Due.fault("q:1" + sign + ";", 4);
            Due.fault("q:1" + sign + "-2", 4);
            Due.fault("q:1" + sign + "/2", 4);
            Due.fault("q:[1" + sign + "]", 5);
        }
        Due.fault("q:[]", 3);
        Due.fault("q:]", 2);
        Due.fault("q:[1", 4);
        Due.fault("q:[1;", 4);
        Due.fault("q:[1)", 4);
        Due.fault("q:[1]]", 5);
        Due.fault("q:[1][2]", 5);
        Due.fault("q:1[2]", 3);
        Due.fault("q:[1=1]?2", 4);
        Due.fault("q:[(1=1)]", 3);
        Due.fault("q:[!1=1]", 3);
    }

    /** Promise 10: "a number (1 to 4 digits)" and Promise 10: "a fifth digit, a seventh of these are such" */
    private static void numbers() {
        Due.fault("q:0", -1);
        Due.fault("q:12", -1);
        Due.fault("q:123", -1);
        Due.fault("q:1234", -1);
        Due.fault("q:12345", 6);
        Due.fault("q:123456", 6);
        Due.fault("q:00000", 6);
        Due.fault("q:0000", -1);
        Due.fault("q:9999", -1);
        Due.fault("q:1+12345", 8);
        Due.fault("q:[12345]", 7);
        Due.fault("q:1=12345?1", 8);
        Due.fault("q:12345=1?1", 6);
        Due.fault("q:1=1?12345", 10);
        Due.fault("q:1;s:12345", 10);
        Due.fault("q:12345x", 6);
        Due.fault("q:1a", 3);
        Due.fault("q:/9", 2);
        Due.fault("q::", 2);
    }

    /** Promise 10: "a letter" (those that have a meaning: a p w t k m e r) */
    private static void letters() {
        for (char sign = 33; sign < 256; sign++) {
            boolean begins = "apwtkmer".indexOf(sign) >= 0 || sign >= '0' && sign <= '9';
            // ( ! and [ can begin, but the ; that follows can't
            boolean opens = "(![".indexOf(sign) >= 0;
            Due.fault("q:" + sign + ";s:1", begins ? -1 : opens ? 3 : 2);
        }
        Due.fault("q:ap", 3);
        Due.fault("q:a1", 3);
    }

    /** Promise 10: "(A CLAUSE that goes on with ! or ( behind its : has a CONDITION.)" */
    private static void clauseOfACondition() {
        Due.fault("q:(1)", 4);
        Due.fault("q:(1=1)", 7);
        Due.fault("q:(1=1);", 7);
        Due.fault("q:(1=1)+1", 7);
        Due.fault("q:(1=1)?1", -1);
        Due.fault("q:!1", 4);
        Due.fault("q:!1=1", 6);
        Due.fault("q:!1=1;", 6);
        Due.fault("q:!1=1?1", -1);
        Due.fault("q: (1=1)", 8);
        Due.fault("q: !1=1;", 7);
        Due.fault("q:1=1?(1=1)?1", 6);
        Due.fault("q:1=1?!1=1?1", 6);
        Due.fault("q:1", -1);
        Due.fault("q:1=1", 5);
    }

    /** Promise 10: "Blanks (32) may stand between all these, not within numbers" */
    private static void blanks() {
        String dense = "q:!([a+12]*p=2|w<3)&t>4?k/5;s:m-3";
        for (int at = 1; at < dense.length(); at++) {
            boolean isWithin = dense.substring(at - 1, at + 1).equals("12");
            Due.fault(dense.substring(0, at) + " " + dense.substring(at), isWithin ? at + 1 : -1);
            Due.fault(dense.substring(0, at) + "   " + dense.substring(at), isWithin ? at + 3 : -1);
            // what stands beside 32 is no blank
            Due.fault(dense.substring(0, at) + "\u001f" + dense.substring(at), at);
            Due.fault(dense.substring(0, at) + "\u00a0" + dense.substring(at), at);
            Due.fault(dense.substring(0, at) + "\t" + dense.substring(at), at);
        }
        Due.fault(" q:1", -1);
        Due.fault("q:1 ", -1);
        Due.fault("q:1=1 ", 6);
        Due.fault(" ", 1);
    }

    /** Promise 10: "not within numbers" */
    private static void blanksInNumbers() {
        Due.fault("q:1 2", 4);
        Due.fault("q:123 4", 6);
        Due.fault("q:1234 5", 7);
        Due.fault("q:1   2", 6);
        Due.fault("q:1 +2", -1);
        Due.fault("q:1 a", 4);
        Due.fault("q:a 1", 4);
        Due.fault("q:1234 =1 ? 1", -1);
    }

    /** Promise 10: "at most six ( [ and ! within one another" ([ alone) */
    private static void bracketsWithin() {
        Due.fault("q:[[[[[1]]]]]", -1);
        Due.fault("q:[[[[[[1]]]]]]", -1);
        Due.fault("q:[[[[[[[1]]]]]]]", 8);
        Due.fault("q:[[[[[[[[", 8);
        Due.fault("q:[[[[[[", 8);
        Due.fault("q:[[[[[[1]]]]]]]", 15);
        Due.fault("q:1+2*[[[[[[1]]]]]]", -1);
        Due.fault("q:1+2*[[[[[[[1", 12);
        Due.fault("q:1=[[[[[[1]]]]]]?1", -1);
        Due.fault("q:1=[[[[[[[1", 10);
        Due.fault("q:1=1?[[[[[[1]]]]]]", -1);
        Due.fault("q:1=1?[[[[[[[1", 12);
        Due.fault("q:[1+[1+[1+[1+[1+[1]]]]]]", -1);
        Due.fault("q:[1+[1+[1+[1+[1+[1+[1", 20);
    }

    /** Promise 10: "at most six ( [ and ! within one another" (( alone) */
    private static void roundsWithin() {
        Due.fault("q:(((((1=1)))))?1", -1);
        Due.fault("q:((((((1=1))))))?1", -1);
        Due.fault("q:(((((((1=1)))))))?1", 8);
        Due.fault("q:1=1&((((((1=1))))))?1", -1);
        Due.fault("q:1=1&(((((((1=1", 12);
        Due.fault("q:1=1|((((((1=1))))))?1", -1);
        Due.fault("q:1=1|(((((((1=1", 12);
        Due.fault("q:(1=1&(1=1|(1=1&(1=1|(1=1&(1=1))))))?1", -1);
        Due.fault("q:(1=1&(1=1|(1=1&(1=1|(1=1&(1=1|(", 32);
    }

    /** Promise 10: "at most six ( [ and ! within one another" (! alone) */
    private static void notsWithin() {
        Due.fault("q:!!!!!1=1?1", -1);
        Due.fault("q:!!!!!!1=1?1", -1);
        Due.fault("q:!!!!!!!1=1?1", 8);
        Due.fault("q:1=1&!!!!!!1=1?1", -1);
        Due.fault("q:1=1&!!!!!!!1", 12);
        Due.fault("q:1=1|!!!!!!1=1?1", -1);
        Due.fault("q:1=1|!!!!!!!1", 12);
    }

    /** Promise 10: "at most six ( [ and ! within one another" (all three) */
    private static void mixedWithin() {
        String[] six = {"!(!(!(1=1)))", "(!(!(!1=1)))", "!!!!![1]=1", "!!!!!1=[1]", "((((([1]=1)))))",
            "(((((1=[1])))))", "!!([[[1]]]=1)", "!!(1=[[[1]]])", "(!(!([1]=[1])))"};
        for (String unit : six) {
            Due.fault("q:" + unit + "?1", -1);
            Due.fault("q:1=1&" + unit + "|1=1?1", -1);
            // with one more around all of it the sixth is the seventh
            Due.fault("q:(" + unit + ")?1", 3 + sixth(unit));
            Due.fault("q:!" + unit + "?1", 3 + sixth(unit));
        }
        Due.fault("q:!(!(!(!1=1)))?1", 8);
        Due.fault("q:!(!(!((1=1))))?1", 8);
        Due.fault("q:!(!(!([1]=1)))?1", 8);
        Due.fault("q:!(!(!(1=[1])))?1", 10);
        Due.fault("q:!!!!!!(1=1)?1", 8);
        Due.fault("q:!!!!!![1]=1?1", 8);
        Due.fault("q:((((((!1=1))))))?1", 8);
        Due.fault("q:(((((([1]=1))))))?1", 8);
        Due.fault("q:!!!!!1=[[1]]?1", 10);
    }

    private static int sixth(String unit) {
        int at = -1;
        for (int found = 0; found < 6; found++) {
            do {
                at++;
            } while ("([!".indexOf(unit.charAt(at)) < 0);
        }
        return at;
    }

    /** Promise 10: "within one another" (so those beside one another, or closed, don't count) */
    private static void besideOneAnother() {
        Due.fault("q:[1]+[1]+[1]+[1]+[1]+[1]+[1]+[1]", -1);
        Due.fault("q:(1=1)&(1=1)&(1=1)&(1=1)|(1=1)|(1=1)|(1=1)?1", -1);
        Due.fault("q:!1=1&!1=1&!1=1&!1=1|!1=1|!1=1|!1=1|!1=1?1", -1);
        Due.fault("q:((((((1=1)))))&(((((1=1))))))?1", -1);
        Due.fault("q:((((((1=1)))))&((((((1=1", 22);
        Due.fault("q:!!!!!!1=1?[[[[[[1]]]]]];s:!!!!!!1=1?[[[[[[1]]]]]]", -1);
        Due.fault("q:[[[[[[1]]]]]]/[[[[[[1]]]]]]-[[[[[[1]]]]]]", -1);
        Due.fault("q:[[[[[[1]]]]]]=[[[[[[1]]]]]]?1", -1);
    }

    /** Promise 10: "FAULT: the first byte at which no RULE can go on (the length, if it ends too early); a fifth
     * digit, a seventh of these are such." */
    private static void faultFirst() {
        Due.fault("x", 0);
        Due.fault("qx", 1);
        Due.fault("q:x", 2);
        Due.fault("q:1x", 3);
        Due.fault("q:1xx:", 3);
        Due.fault("q:12345[[[[[[[", 6);
        Due.fault("q:[[[[[[[12345", 8);
        Due.fault("q:1;x;12345", 4);
        Due.fault("q:12 x", 5);
        Due.fault("q:1=1?", 6);
        Due.fault("q:1=1?x", 6);
    }

    /** Promise 10: "RULES (20 texts at most)" (a TAPE of 160 bytes is one, and has its FAULTS as others) */
    private static void fullTape() {
        String text = "q:1" + "+12".repeat(52) + "3";
        Due.is("bytes", text.length(), 160);
        Due.fault(text, -1);
        Due.fault(text.substring(0, 159) + "+", 160);
        Due.fault(text.substring(0, 159) + "x", 159);
        Due.fault(text.substring(0, 158) + "+[", 160);
        Due.fault(" ".repeat(157) + "q:1", -1);
        Due.fault("q:1" + " ".repeat(157), -1);
        Due.fault(" ".repeat(160), 160);
        Scene.persons(1).tape(text).then("rule(0)").is("asked(0, 0, 0, 0)", 1);
        Scene.persons(1).tape("q:0" + "+0".repeat(77) + "+").tape("1").then("rule(0)").is("asked(0, 0, 0, 0)", 1);
        Scene.persons(1).tape("s:0;".repeat(39) + "q:1").then("rule(0)").is("asked(0, 0, 0, 0)", 1);
    }

    /** Promise 11: "each from a DAY (0 .. 1,000) on" and Promise 11: "NONE: a FAULT, no such DAY, there are 20." */
    private static void ruleFrom() {
        new Scene().tape("q:1").bounds("rule(%)", 0, 1000, -1);
        new Scene("days(3)").rule("q:1", 0).tape("q:1").bounds("rule(%)", 0, 1000, -1);
        new Scene().rule("q:1", 1000).each("force(%, 0)", 999, -1, 0, -1);
        new Scene().rule("q:1", 0).each("force(%, 0)", -1, -1, 0, 0);
    }

    /** Promise 11: "NONE: a FAULT" */
    private static void ruleOfAFault() {
        new Scene().refuses("rule(0)", -1);
        new Scene().tape("q:").refuses("rule(0)", -1);
        new Scene().tape("q:1;").refuses("rule(0)", -1);
        new Scene().tape("x").refuses("rule(0)", -1);
        new Scene().rule("q:2", 0).tape("q:12345").refuses("rule(0)", -1);
        new Scene().rule("q:2", 0).tape("q:[[[[[[[1]]]]]]]").refuses("rule(0)", -1);
        new Scene().tape("q:1;").then("end(3)").is("rule(0)", 0);
        new Scene().tape("q:[[[[[[1]]]]]]").is("rule(0)", 0);
        new Scene().tape("q:1234").is("rule(0)", 0);
    }

    /** Promise 11: "The TAPE (empty then; if refused it stays) is a RULE from a DAY on: its number." */
    private static void ruleEmpties() {
        Scene s = Scene.persons(1).tape("q:1").then("rule(0)");
        s.is("count(9)", 0);
        s.is("fault()", 0);
        s.refuses("rule(0)", -1);
        s.tape("q:0").is("rule(0)", 1);
        // what comes to the TAPE later changes no RULE
        s.tape("q:0;s:0").then("end(3)").is("asked(0, 0, 0, 0)", 1);
        s.tape("q:0").then("rule(1)").is("asked(0, 0, 0, 0)", 1);
        DiaryHouse x = new DiaryHouse();
        Due.feed(x, "q:1+");
        Due.is("rule of a FAULT", x.rule(0), -1);
        Due.is("bytes that stay", x.count(9), 4);
        Due.feed(x, "1");
        Due.is("rule(1001)", x.rule(1001), -1);
        Due.is("bytes that stay", x.count(9), 5);
        Due.is("rule(1000)", x.rule(1000), 0);
        Due.is("bytes then", x.count(9), 0);
    }

    /** Promise 11: "RULES (20 texts at most)" */
    private static void rulesFull() {
        Scene s = Scene.persons(1);
        for (int i = 0; i < 19; i++) {
            s = s.tape("q:0").then("rule(0)");
        }
        s.tape("q:1").is("rule(0)", 19);
        Scene full = s.tape("q:1").then("rule(0)");
        full.is("force(0, 0)", 19);
        full.is("asked(0, 0, 0, 0)", 1);
        full.refuses("rule(0)", -1);
        full.tape("q:0").refuses("rule(0)", -1);
        full.tape("q:0").refuses("rule(1000)", -1);
        full.tape("q:0").is("fault()", -1);
        full.tape("q:0").then("end(2)").is("count(9)", 2);
    }
}
