/** Promises 8 to 11, and the grammar of RULES. */
public final class TapeTest {
    public static void main(String[] args) {
        feed();
        end();
        faultsOfClauses();
        faultsOfConditions();
        faultsOfAtoms();
        depths();
        blanks();
        rule();
        Due.end();
    }

    private static void feed() {
        DiaryHouse x = new DiaryHouse();
        Due.is("feed of zeros", x.feed(0, 0, 0, 0, 0), 0);
        // q in the highest byte, : in the second, 1 in the lowest
        Due.is("feed with zeros within", x.feed(0x713A0031, 0, 0x00002B00, 0, 0x00000032), 5);
        Due.is("its FAULT", x.fault(), -1);
        Due.is("its WORTH", x.rule(0), 0);
        x.person(0, 20, 1);
        Due.is("asked by q:1+2", x.asked(0, 0, 0, 0), 1);
        for (int i = 1; i <= 7; i++) {
            Due.is("feed of twenty", x.feed(-1, 0x80808080, 0x7F7F7F7F, 0x31313131, 0x31313131), 20 * i);
        }
        Due.is("feed of 19", x.feed(-1, -1, -1, -1, 0x01010100), 159);
        for (int word = 0; word < 5; word++) {
            int[] w = new int[5];
            w[word] = 0x01000001;
            Due.is("feed of two more in word " + word, x.feed(w[0], w[1], w[2], w[3], w[4]), -1);
            w[word] = 0x00010100;
            Due.is("feed of two more in word " + word, x.feed(w[0], w[1], w[2], w[3], w[4]), -1);
        }
        Due.is("bytes after it", x.count(9), 159);
        Due.is("feed of one more", x.feed(0, 0, 0, 0, 1), 160);
        for (int bit = 0; bit < 32; bit++) {
            Due.is("feed of one too many, bit " + bit, x.feed(0, 0, 1 << bit, 0, 0), -1);
        }
        Due.is("feed of none", x.feed(0, 0, 0, 0, 0), 160);
        Due.is("bytes of the TAPE", x.count(9), 160);
    }

    private static void end() {
        DiaryHouse x = new DiaryHouse();
        Due.is("end(1) of none", x.end(1), false);
        Due.is("end(0) of none", x.end(0), true);
        Due.feed(x, "q:1+2");
        Due.is("end(6)", x.end(6), false);
        Due.is("end(-1)", x.end(-1), false);
        Due.is("bytes", x.count(9), 5);
        Due.is("end(5)", x.end(5), true);
        Due.is("end(4)", x.end(4), true);
        Due.is("FAULT behind the end", x.fault(), 4);
        Due.is("end(3)", x.end(3), true);
        Due.is("no FAULT", x.fault(), -1);
        Due.is("end(4) once gone", x.end(4), false);
        Due.feed(x, "0");
        Due.is("FAULT of q:10", x.fault(), -1);
    }

    private static void faultsOfClauses() {
        Due.fault("", 0);
        Due.fault("q", 1);
        Due.fault("a:1", 0);
        Due.fault("Q:1", 0);
        Due.fault("qq:1", 1);
        Due.fault("q:", 2);
        Due.fault("q:1", -1);
        Due.fault("s:1", -1);
        Due.fault("d:1", -1);
        Due.fault("q:1;", 4);
        Due.fault("q:1;;", 4);
        Due.fault("q:1;s", 5);
        Due.fault("q:1;s:a;d:2;q:3", -1);
        Due.fault("q;1", 1);
        Due.fault("q:1:2", 3);
        Due.fault("q:1\u00e9", 3);
        Due.fault("\u00ff", 0);
        Due.fault("q:1\t", 3);
    }

    private static void faultsOfConditions() {
        Due.fault("q:1?2", 3);
        Due.fault("q:a=1", 5);
        Due.fault("q:a=1;", 5);
        Due.fault("q:a=1?", 6);
        Due.fault("q:a=1?2", -1);
        Due.fault("q:a<1?2", -1);
        Due.fault("q:a>1?2", -1);
        Due.fault("q:a=1=2?3", 5);
        Due.fault("q:a=1?2=3", 7);
        Due.fault("q:a=1?2?3", 7);
        Due.fault("q:a=1?(a=1)?2", 6);
        Due.fault("q:a=1?!a=1?2", 6);
        Due.fault("q:a=1|p=2&w=3?4", -1);
        Due.fault("q:a=1|p", 7);
        Due.fault("q:a=1|p?1", 7);
        Due.fault("q:a=1&?1", 6);
        Due.fault("q:a&1", 3);
        Due.fault("q:(a=1)?1", -1);
        Due.fault("q:(a=1", 6);
        Due.fault("q:(a=1?", 6);
        Due.fault("q:(a=1)", 7);
        Due.fault("q:(a=1)+1", 7);
        Due.fault("q:(a=1)=1", 7);
        Due.fault("q:(a)=1?2", 4);
        Due.fault("q:(a=1|!p=2)&w=1|k=2?1", -1);
        Due.fault("q:a=1&(p=2)?1", -1);
        Due.fault("q:a=(1)?1", 4);
        Due.fault("q:a=!1?1", 4);
        Due.fault("q:a=?1", 4);
        Due.fault("q:!a=?1", 5);
        Due.fault("q:!a", 4);
        Due.fault("q:!a?1", 4);
        Due.fault("q:!a=1", 6);
        Due.fault("q:!a=1?1", -1);
        Due.fault("q:!(a=1&p=2)?1", -1);
        Due.fault("q:()?1", 3);
        Due.fault("q:(a=1))?1", 7);
    }

    private static void faultsOfAtoms() {
        Due.fault("q:a+p-w*t/k+m-e*r", -1);
        Due.fault("q:b", 2);
        Due.fault("q:q", 2);
        Due.fault("q:A", 2);
        Due.fault("q:aa", 3);
        Due.fault("q:a1", 3);
        Due.fault("q:1a", 3);
        Due.fault("q:-1", 2);
        Due.fault("q:1+", 4);
        Due.fault("q:1+*2", 4);
        Due.fault("q:1*-2", 4);
        Due.fault("q:9999", -1);
        Due.fault("q:0000", -1);
        Due.fault("q:12345", 6);
        Due.fault("q:1234+56789", 11);
        Due.fault("q:[a+1]*2", -1);
        Due.fault("q:[a", 4);
        Due.fault("q:[a;", 4);
        Due.fault("q:[a=1]?1", 4);
        Due.fault("q:[]", 3);
        Due.fault("q:a]", 3);
        Due.fault("q:[a)", 4);
        Due.fault("q:[a]=[p]?[w]", -1);
        Due.fault("q:[a]=1;", 7);
    }

    private static void depths() {
        Due.fault("q:[[[[[[a]]]]]]", -1);
        Due.fault("q:[[[[[[[a]]]]]]]", 8);
        Due.fault("q:!!!!!!a=1?1", -1);
        Due.fault("q:!!!!!!!a=1?1", 8);
        Due.fault("q:((((((a=1))))))?1", -1);
        Due.fault("q:(((((((a=1)))))))?1", 8);
        Due.fault("q:!(!(!(a=1)))?1", -1);
        Due.fault("q:!(!(!([a]=1)))?1", 8);
        Due.fault("q:!(!(!(a=[1])))?1", 10);
        Due.fault("q:!(!(!(!a=1)))?1", 8);
        Due.fault("q:!(!(!((a=1))))?1", 8);
        Due.fault("q:!(!((a=[1])))?1", -1);
        // what stands beside one another does not add up
        Due.fault("q:!!!a=1&!!!!!!p=1|!!!!!!w=1?[[[[[[1]]]]]]+[[[[[[2]]]]]]", -1);
        Due.fault("q:((((((a=1)))))&(p=1))?1", -1);
        Due.fault("q:!!!!!(a=1)&!!!!!(a=1)?1", -1);
        Due.fault("q:!!!!!!(a=1)?1", 8);
        Due.fault("q:!!!!!!a=1|[[[[[[[1]=1?1", 18);
        // behind a SUM that began a CONDITION
        Due.fault("q:a=[[[[[[1]]]]]]?1", -1);
        Due.fault("q:a=[[[[[[[1", 10);
        Due.fault("q:a=1&!!!!!!p=1|!!!!!!w=1?[[[[[[1]]]]]]", -1);
        Due.fault("q:a=1&!!!!!!!p=1?1", 12);
        Due.fault("q:a=1|!!!!!!!p=1?1", 12);
        Due.fault("q:a=1?[[[[[[[1", 12);
        Due.fault("q:a=1?[[[[[[1]]]]]];s:[[[[[[1]]]]]];d:[[[[[[[1", 44);
    }

    private static void blanks() {
        Due.fault("q : a = 1 ? 2 ; s : ! ( a < 1 & p > 2 ) ? [ 3 + 4 ] * 5", -1);
        Due.fault("  q:1", -1);
        Due.fault("q:1  ", -1);
        Due.fault("q:1 2", 4);
        Due.fault("q:12   34", 7);
        Due.fault("q: ", 3);
        Due.fault("   ", 3);
        Due.fault("q:1 ; ", 6);
        Due.fault("q:1 + x", 6);
        Due.fault("q:[[[[[[ [", 9);
    }

    private static void rule() {
        DiaryHouse x = new DiaryHouse();
        Due.is("rule of an empty TAPE", x.rule(0), -1);
        Due.feed(x, "q:1");
        Due.is("rule(-1)", x.rule(-1), -1);
        Due.is("rule(1001)", x.rule(1001), -1);
        Due.is("bytes that stay", x.count(9), 3);
        Due.is("RULES", x.count(3), 0);
        Due.is("rule(1000)", x.rule(1000), 0);
        Due.is("bytes behind it", x.count(9), 0);
        Due.feed(x, "q:1+");
        Due.is("rule of a FAULT", x.rule(0), -1);
        Due.is("bytes that stay", x.count(9), 4);
        Due.feed(x, "1");
        for (int i = 1; i < 20; i++) {
            Due.is("rule " + i, x.rule(i), i);
            Due.feed(x, "q:" + i);
        }
        Due.is("a 21st rule", x.rule(0), -1);
        Due.is("bytes that stay", x.count(9), 4);
        Due.is("RULES", x.count(3), 20);
        longest();
    }

    private static void longest() {
        DiaryHouse x = new DiaryHouse();
        x.person(0, 20, 1);
        StringBuilder text = new StringBuilder("q:1=1?1");
        while (text.length() < 159) {
            text.append("+1");
        }
        Due.rule(x, text + " ", 0, 0);
        Due.is("asked by the longest", x.asked(0, 0, 0, 0), 1);
        StringBuilder clauses = new StringBuilder();
        for (int i = 0; i < 39; i++) {
            clauses.append("d:0;");
        }
        Due.rule(x, clauses + "q:1", 0, 1);
        Due.is("asked by the last of many CLAUSES", x.asked(0, 0, 0, 0), 1);
    }
}
