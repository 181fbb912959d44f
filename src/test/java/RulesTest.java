/** Promises 22 to 24: feed, rules, fault; how rules are read and what they come to. */
public final class RulesTest {
    private static final String NOTS = "not not not not not not ";

    public static void main(String[] args) {
        feed();
        tape();
        words();
        values();
        arithmetic();
        tests();
        unless();
        sums();
        params();
        outs();
        faults();
        faultsOfPlace();
        tooMuch();
        faultsLeaveTheRules();
        Check.end();
    }

    private static void feed() {
        MapRun x = new MapRun();
        for (int i = 1; i <= 25; i++) {
            Check.same("feed " + i, x.feed(i, -i, 0, Integer.MIN_VALUE, 1), 20 * i);
        }
        Check.same("beyond 500", x.feed(1, 2, 3, 4, 5), -1);
        Check.same("none came", x.count(7), 500);
        Check.same("all of it can be read", x.rules(500), 1);
        Check.same("it is empty then", x.count(7), 0);
        Check.same("again", x.feed(1, 2, 3, 4, 5), 20);
        // highest byte first: 's' is the first byte of the first number
        MapRun y = new MapRun();
        y.feed(0x73657420, 0x67617020, 0x3132333b, 0x20202020, 0x0a0a0aff);
        Check.same("set gap 123;", y.rules(19), 0);
        Check.same("gap", y.count(9), 123);
        y.feed(0x20202020, 0x20202020, 0x20202020, 0x20202020, 0x202020ff);
        Check.same("byte 255", y.rules(20), 1);
        Check.same("at its place", y.fault(), 19);
    }

    private static void tape() {
        MapRun x = new MapRun();
        Check.badArgument("1 of none", () -> x.rules(1));
        Check.badArgument("-1", () -> x.rules(-1));
        Check.badArgument("least", () -> x.rules(Integer.MIN_VALUE));
        Check.same("0 of none", x.rules(0), 0);
        Check.same("fault", Check.rules(x, " 1"), 1);
        x.feed(1, 2, 3, 4, 5);
        Check.badArgument("21 of 20", () -> x.rules(21));
        Check.same("the tape stays", x.count(7), 20);
        Check.same("the fault stays", x.fault(), 1);
        Check.same("its first none", x.rules(0), 0);
        Check.same("it is empty then", x.count(7), 0);
        Check.same("no fault", x.fault(), -1);
    }

    /** PENALTY of rules for a runner in order that missed 2 of 3, with 1 wrong, run 30, score 4, club 7. */
    private static int penalty(String text) {
        MapRun x = Make.judgedByRules();
        Check.same(text, Check.rules(x, text), 0);
        return x.judged(0, 6, 40);
    }

    private static void due(String expr, int due) {
        Check.same(expr, penalty("penalty " + expr + ";"), due);
    }

    private static void words() {
        Check.same("nothing", penalty(""), 0);
        Check.same("blanks", penalty(" \n \n"), 0);
        Check.same("no blanks", penalty("penalty(1)*2;penalty 3;out 0;"), 5);
        Check.same("number and word side by side", penalty("penalty 5unless 0;"), 5);
        Check.same("lines", penalty("\npenalty\n4\n;\n"), 4);
    }

    private static void values() {
        due("missed", 2);
        due("wrong", 1);
        due("run", 30);
        due("score", 4);
        due("posts", 3);
        due("club", 7);
        due("free", 0);
        due("limit", 3600);
        due("gap", 60);
        due("window", 900);
        due("00012", 12);
    }

    private static void arithmetic() {
        due("2 + 3 * 4", 14);
        due("(2 + 3) * 4", 20);
        due("20 - 5 - 3", 12);
        due("100 / 5 / 2", 10);
        due("100 / (5 / 2)", 50);
        due("7 / 2", 3);
        due("(0 - 7) / 2", -3);
        due("7 / (0 - 2)", -3);
        due("7 / 0", 0);
        due("7 / 2 * 2", 6);
        due("99999", 9999);
        due("0 - 99999", -9999);
        due("99999 - 95000", 4999);
        // wraps: 65536 * 32768 is the least int
        due("65536 * 32768 < 0", 1);
        due("65536 * 65536", 0);
        due("(65536 * 32768) / (0 - 1) = 65536 * 32768", 1);
        due("65536 * 32768 - 1 < 0", 0);
    }

    private static void tests() {
        due("1 < 2", 1);
        due("2 < 2", 0);
        due("2 = 2", 1);
        due("2 = 3", 0);
        due("1 + 1 = 4 / 2", 1);
        due("not 0", 1);
        due("not 5", 0);
        due("not not 5", 1);
        due(NOTS + "5", 1);
        due("not 1 < 0", 1);
        due("not (1 < 0) + 1", 0);
        due("5 and 7", 1);
        due("5 and 0", 0);
        due("0 or 7", 1);
        due("0 or 0", 0);
        due("1 or 0 and 0", 1);
        due("(1 or 0) and 0", 0);
        due("not 0 or 1", 1);
        due("not 1 and 0", 0);
        due("(0 - 1) and 1", 1);
        due("(1 < 2) < 2", 1);
        due("5", 5);
        due("(((((5)))))", 5);
        due("1 and not 0 and 3 or 0", 1);
    }

    private static void unless() {
        due("5 unless 0", 5);
        due("5 unless 3", 0);
        due("5 unless missed = 2", 0);
        due("5 unless missed < 2", 5);
        due("1 or 0 unless 0 or 1", 0);
    }

    private static void sums() {
        Check.same("each cut for itself", penalty("penalty 99999; penalty 0 - 1; penalty 0 - 99999;"), -1);
        StringBuilder twenty = new StringBuilder();
        for (int i = 0; i < 20; i++) {
            twenty.append("penalty 99999;");
        }
        Check.same("twenty of the most", penalty(twenty.toString()), 20 * 9999);
        Check.same("out counts for none", penalty("out 9; penalty 2;"), 2);
    }

    private static void params() {
        Check.same("the last set", penalty("penalty gap; set gap 5; set gap 8;"), 8);
        Check.same("ahead of it or behind", penalty("set limit 2; penalty limit; set window 99999; penalty 1;"), 3);
        MapRun x = new MapRun();
        Check.rules(x, "set limit 0;set window 00007;");
        Check.same("limit", x.count(8), 0);
        Check.same("gap", x.count(9), 60);
        Check.same("window", x.count(10), 7);
        Check.rules(x, "set gap 99999;");
        Check.same("limit as without", x.count(8), 3600);
        Check.same("gap", x.count(9), 99999);
    }

    private static void outs() {
        MapRun x = new MapRun();
        x.course(true);
        x.runner(0, 3, 0);
        x.event(0, 0, 0, 0);
        x.event(2, 0, 0, 0);
        String[] outs = {"out 1;", "out 0; out club - 4;", "out 5 unless not free;", "out 0; out 0 - 3; out 0;"};
        for (String text : outs) {
            Check.rules(x, text);
            Check.same(text, x.judged(0, 0, 0), 2);
        }
        String[] ins = {"out 0;", "out club - 3;", "out 5 unless free;", "penalty 5;", ""};
        for (String text : ins) {
            Check.rules(x, text);
            Check.same(text, x.judged(0, 0, 0), 4);
        }
    }

    private static void fault(String text, int kind, int at) {
        MapRun x = new MapRun();
        Check.same(text, Check.rules(x, text), kind);
        Check.same("place of " + text, x.fault(), at);
    }

    private static void faults() {
        fault("foo 1;", 1, 0);
        fault("1;", 1, 0);
        fault(";", 1, 0);
        fault(" limit", 1, 1);
        fault("penalties 1;", 1, 0);
        fault("penalty1 1;", 1, 9);
        fault("Penalty 1;", 1, 0);
        fault("penalty", 1, 7);
        fault("penalty   ", 1, 10);
        fault("penalty ;", 1, 8);
        fault("penalty 1", 1, 9);
        fault("penalty 1 1;", 1, 10);
        fault("penalty 1 missed;", 1, 10);
        fault("penalty 1 fog;", 1, 10);
        fault("penalty (1;", 1, 10);
        fault("penalty 1);", 1, 9);
        fault("penalty ();", 1, 9);
        fault("penalty -1;", 1, 8);
        fault("penalty 1 + ;", 1, 12);
        fault("penalty 1 < 2 < 3;", 1, 14);
        fault("penalty 1 = 2 = 3;", 1, 14);
        fault("penalty 1 not 2;", 1, 10);
        fault("penalty 1 unless 2 unless 3;", 1, 19);
        fault("penalty (1 unless 2);", 1, 11);
        fault("penalty unless 2;", 3, 8);
        fault("penalty not;", 1, 11);
        fault("penalty 1 > 2;", 1, 10);
        fault("penalty 1 : 2;", 1, 10);
        fault("penalty 1 ` 2;", 1, 10);
        fault("penalty 1 { 2;", 1, 10);
        fault("penalty 1 , 2;", 1, 10);
        fault("penalty 1\t;", 1, 9);
        fault("penalty 1 123456;", 1, 10);
        fault("set;", 1, 3);
        fault("set 5;", 1, 4);
        fault("set gap;", 1, 7);
        fault("set gap gap;", 1, 8);
        fault("set gap (5);", 1, 8);
        fault("set gap 5", 1, 9);
        fault("set gap 5 + 1;", 1, 10);
        fault("set", 1, 3);
        fault("set gap 5;;", 1, 10);
        fault("out 1; ?", 1, 7);
    }

    private static void faultsOfPlace() {
        fault("set fog 3;", 3, 4);
        fault("set missed 3;", 3, 4);
        fault("set set 3;", 3, 4);
        fault("set gaps 3;", 3, 4);
        fault("penalty fog;", 3, 8);
        fault("penalty azaz;", 3, 8);
        fault("penalty z;", 3, 8);
        fault("penalty 1 + fog;", 3, 12);
        fault("penalty 1 + not 1;", 3, 12);
        fault("penalty 1 < not 1;", 3, 12);
        fault("penalty not fog;", 3, 12);
        fault("penalty (fog);", 3, 9);
        fault("penalty and 1;", 3, 8);
        fault("penalty out;", 3, 8);
        fault("penalty 1 unless fog;", 3, 17);
        fault("penalty 1 or or 1;", 3, 13);
        fault("penalty missedwrong;", 3, 8);
        fault("penalty mis sed;", 3, 8);
        fault("penalty fog ?", 3, 8);
        fault("penalty ? fog", 1, 8);
    }

    private static void tooMuch() {
        fault("penalty 123456;", 2, 8);
        fault("penalty 000001;", 2, 8);
        fault("penalty 99999999999999999999;", 2, 8);
        fault("set gap 100000;", 2, 8);
        fault("penalty " + NOTS + "not 1;", 2, 8 + NOTS.length());
        fault("penalty " + NOTS + "1;", 0, -1);
        fault("penalty " + NOTS + "(" + NOTS + "1);", 0, -1);
        fault("penalty 1 and " + NOTS + "1 and " + NOTS + "not 1;", 2, 14 + 2 * NOTS.length() + 6);
        fault("penalty (((((1)))));", 0, -1);
        fault("penalty ((((((1))))));", 2, 14);
        fault("penalty ((((((fog;", 2, 14);
        fault("penalty ((((((not;", 2, 14);
        fault("penalty ((((((((;", 2, 14);
        fault("penalty ((((((1234567;", 2, 14);
        fault("penalty (((((( );", 1, 15);
        fault("penalty ((((((;", 1, 14);
        fault("penalty ((((((", 1, 14);
        fault("penalty ((((((?", 1, 14);
        fault("penalty ((((((+", 1, 14);
        fault("penalty 1 unless (((((1)))));", 0, -1);
        fault("penalty (((((1))))) + (((((2)))));", 0, -1);
        fault("penalty 1 unless ((((((1))))));", 2, 23);
        StringBuilder clauses = new StringBuilder();
        for (int i = 0; i < 20; i++) {
            clauses.append(i % 2 == 0 ? "out 0;" : "set gap 1;");
        }
        fault(clauses.toString(), 0, -1);
        fault(clauses + "  ", 0, -1);
        fault(clauses + " out 0;", 2, clauses.length() + 1);
        fault(clauses + "set", 2, clauses.length());
        fault(clauses + "penalty fog", 2, clauses.length());
        fault(clauses + "fog", 1, clauses.length());
        fault(clauses + ";", 1, clauses.length());
    }

    private static void faultsLeaveTheRules() {
        MapRun x = new MapRun();
        x.course(false);
        x.runner(0, 0, 0);
        Check.rules(x, "penalty 7; set gap 9;");
        Check.same("a fault far behind", Check.rules(x, "set gap 1; penalty 1; penalty 2; ?"), 1);
        Check.same("gap", x.count(9), 9);
        Check.same("penalty", x.judged(0, 6, 0), 7);
        Check.same("the tape is empty", x.count(7), 0);
        Check.same("fault", x.fault(), 33);
        Check.same("none now", Check.rules(x, "penalty 8;"), 0);
        Check.same("fault", x.fault(), -1);
        Check.same("penalty", x.judged(0, 6, 0), 8);
        Check.same("gap", x.count(9), 60);
    }
}
