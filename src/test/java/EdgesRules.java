/** Terms 4 and promises 22 to 24, sentence by sentence. */
final class EdgesRules {
    private static final String TERMS = "Terms 4";
    private static final String SIX_NOTS = "not not not not not not ";

    private EdgesRules() { }

    static void all() {
        fiveHundredBytes();
        theLatestCounts();
        words();
        numbers();
        signs();
        blanks();
        clauses();
        params();
        expressions();
        parts();
        mostParts();
        values();
        fromTheLeft();
        wrap();
        divide();
        truth();
        unless();
        firstFault();
        cantStand();
        noToken();
        endsTooSoon();
        sixDigits();
        twentyFirstClause();
        tooDeep();
        sevenNots();
        noSuchPart();
        noSuchParam();
        penalty();
        out();
        valuesAsKnown();
        lastSet();
        feed();
        feedFull();
        rules();
        rulesRefused();
        fault();
    }

    /** What the penalty of a runner that is judged by rules is by a text. */
    private static void comesTo(String text, int due) {
        MapRun x = Make.judgedByRules();
        Check.same(text + " read", Check.rules(x, text), 0);
        Check.same(text, x.judged(0, 6, 40), due);
    }

    private static void isWorth(String expr, int due) {
        comesTo("penalty " + expr + ";", due);
    }

    private static void faults(String text, int kind, int at) {
        MapRun x = new MapRun();
        Check.same(text, Check.rules(x, text), kind);
        Check.same(text + " at", x.fault(), at);
    }

    private static void reads(String text) {
        faults(text, 0, -1);
    }

    private static String times(int many, String text) {
        StringBuilder all = new StringBuilder();
        for (int i = 0; i < many; i++) {
            all.append(text);
        }
        return all.toString();
    }

    private static void fiveHundredBytes() {
        Doc.says(TERMS, "RULES: a text of at most 500 bytes");
        String longest = "penalty 1" + times(244, "+1") + "; ";
        Check.same("so long", longest.length(), 499);
        comesTo(longest + " ", 245);
        MapRun x = new MapRun();
        Check.feed(x, longest + "?");
        Check.same("the last of 500 bytes is read", x.rules(500), 1);
        Check.same("at its place", x.fault(), 499);
        String[] beginnings = {"p", "penalt", "o", "s", "se", "f"};
        for (String begun : beginnings) {
            Check.feed(x, times(500 - begun.length(), " ") + begun);
            Check.same("a word begun at the end", x.rules(500), 1);
            Check.same("at its place", x.fault(), 500 - begun.length());
            Check.feed(x, times(496 - begun.length(), "\n") + "out " + begun);
            Check.same("where a part must stand", x.rules(500), 3);
            Check.same("there", x.fault(), 500 - begun.length());
        }
        Check.feed(x, times(500, " "));
        Check.same("blanks alone", x.rules(500), 0);
        Check.same("an empty text", new MapRun().rules(0), 0);
    }

    private static void theLatestCounts() {
        Doc.says(TERMS, "the latest that was told counts, whenever it is asked of.");
        MapRun x = Make.judgedByRules();
        Check.rules(x, "penalty 3;");
        Check.same("of now", x.judged(0, 6, 40), 3);
        x.go(5);
        Check.rules(x, "penalty 4;");
        Check.same("not both", x.judged(0, 6, 45), 4);
        Check.same("of a second ahead of it", x.judged(0, 6, 40), 4);
        Check.rules(x, "");
        Check.same("an empty one too", x.judged(0, 6, 40), 0);
    }

    private static void words() {
        Doc.says(TERMS, "TOKENS: words (a .. z, the longest row)");
        faults("penalty runs;", 3, 8);
        faults("penalty ru n;", 3, 8);
        faults("penaltyrun;", 1, 0);
        faults("penalty run run;", 1, 12);
        faults("penalty az;", 3, 8);
        faults("penalty a;", 3, 8);
        faults("penalty z;", 3, 8);
        faults("penalty zz;", 3, 8);
        faults("penalty a{;", 3, 8);
        faults("penalty run{;", 1, 11);
        faults("penalty run`;", 1, 11);
        faults("penalty Run;", 1, 8);
        reads("penalty 1unless 2;out(run);");
    }

    private static void numbers() {
        Doc.says(TERMS, "NUMBERS (1 to 5 digits)");
        isWorth("7", 7);
        isWorth("0", 0);
        isWorth("00009", 9);
        isWorth("99999 - 90001", 9998);
        isWorth("12345 - 10000", 2345);
        isWorth("6789 - 0", 6789);
        faults("penalty 123456;", 2, 8);
        faults("penalty 1 2;", 1, 10);
        faults("penalty 1/;", 1, 10);
        faults("penalty 1:;", 1, 9);
    }

    private static void signs() {
        Doc.says(TERMS, "signs ; ( ) + - * / < = ;");
        isWorth("(1)", 1);
        isWorth("2+3", 5);
        isWorth("2-3", -1);
        isWorth("2*3", 6);
        isWorth("7/3", 2);
        isWorth("2<3", 1);
        isWorth("2=3", 0);
        for (char sign = 0; sign < 256; sign++) {
            boolean isBlank = sign == 32 || sign == 10;
            boolean isDigit = sign >= '0' && sign <= '9';
            boolean endsIt = isBlank || isDigit || sign == ';';
            boolean goesOn = sign == '+' || sign == '-' || sign == '*' || sign == '/' || sign == '<' || sign == '=';
            MapRun x = new MapRun();
            Check.same("sign " + (int) sign, Check.rules(x, "out 1" + sign + ";"), sign == ';' ? 1 : endsIt ? 0 : 1);
            Check.same("its place, " + (int) sign, x.fault(),
                    sign == ';' || goesOn ? 6 : endsIt ? -1 : 5);
        }
    }

    private static void blanks() {
        Doc.says(TERMS, "blanks (32, 10) between them count for nothing.");
        comesTo("  penalty\n\n 1 \n+\n2 ;\n ", 3);
        comesTo("penalty(1+2);", 3);
        comesTo(" \n", 0);
        faults("penalty 1\r;", 1, 9);
        faults("penalty 1\t;", 1, 9);
        faults("penalty 1" + (char) 0 + ";", 1, 9);
        faults("penalty 1" + (char) 160 + ";", 1, 9);
        faults("pen alty 1;", 1, 0);
        faults("penalty 1 2;", 1, 10);
    }

    private static void clauses() {
        Doc.says(TERMS, "In quotes is what stands there, [ ] perhaps, * any number of times, | one of some:");
        reads("");
        reads("penalty 1;");
        reads("penalty 1 unless 1;");
        reads("out 1; penalty 1; set gap 1;");
        Doc.says(TERMS, "RULES: CLAUSE*.");
        comesTo("", 0);
        comesTo("penalty 1; penalty 2; penalty 3;", 6);
        faults(";", 1, 0);
        Doc.says(TERMS, "CLAUSE: ('penalty' | 'out') EXPR ['unless' EXPR] ';'");
        comesTo("penalty 5;", 5);
        comesTo("out 5;", 0);
        comesTo("penalty 5 unless 0;", 5);
        reads("out 5 unless 0;");
        faults("penalty;", 1, 7);
        faults("out 5 unless;", 1, 12);
        faults("out 5 unless 1 unless 1;", 1, 15);
        faults("out (5 unless 1);", 1, 7);
        faults("fine 5;", 1, 0);
        faults("5;", 1, 0);
        faults("penalty 5", 1, 9);
        Doc.says(TERMS, "| 'set' PARAM NUMBER ';'.");
        comesTo("set gap 5; penalty gap;", 5);
        faults("set gap 1 + 1;", 1, 10);
        faults("set gap run;", 1, 8);
        faults("set gap (1);", 1, 8);
        faults("set gap;", 1, 7);
        faults("set gap 1 unless 1;", 1, 10);
        faults("set 1;", 1, 4);
        faults("set;", 1, 3);
        faults("set ;", 1, 4);
        faults("set gap 1", 1, 9);
    }

    private static void params() {
        Doc.says(TERMS, "PARAM: limit gap window.");
        MapRun x = new MapRun();
        Check.same("all three", Check.rules(x, "set limit 1; set gap 2; set window 3;"), 0);
        for (int i = 0; i < 3; i++) {
            Check.same("param " + i, x.count(8 + i), i + 1);
        }
        isWorth("limit", 3600);
        isWorth("gap", 60);
        isWorth("window", 900);
    }

    private static void expressions() {
        Doc.says(TERMS, "EXPR: AND ('or' AND)*.");
        isWorth("0 or 0 or 3", 1);
        isWorth("1 or 1 and 0", 1);
        isWorth("0 and 1 or 1", 1);
        faults("penalty or 1;", 3, 8);
        faults("penalty 1 or;", 1, 12);
        Doc.says(TERMS, "AND: NOT ('and' NOT)*.");
        isWorth("1 and 2 and 3", 1);
        isWorth("1 and not 0", 1);
        isWorth("not 0 and 0", 0);
        faults("penalty 1 and;", 1, 13);
        Doc.says(TERMS, "NOT: 'not' NOT | SUM [('<' | '=') SUM].");
        isWorth("not not 2", 1);
        isWorth("not 2 < 1", 1);
        isWorth("not 1 = 2", 1);
        isWorth("1 + 1 = 2", 1);
        isWorth("1 < 1 + 1", 1);
        faults("penalty 1 < 2 < 3;", 1, 14);
        faults("penalty 1 = 2 < 3;", 1, 14);
        faults("penalty 1 < not 0;", 3, 12);
        Doc.says(TERMS, "SUM: PRODUCT (('+' | '-') PRODUCT)*.");
        isWorth("1 + 2 * 3 - 4 / 2", 5);
        faults("penalty + 1;", 1, 8);
        faults("penalty 1 - - 1;", 1, 12);
        Doc.says(TERMS, "PRODUCT: PART (('*' | '/') PART)*.");
        isWorth("2 * 3 * 4 / 8", 3);
        faults("penalty * 1;", 1, 8);
        faults("penalty 2 * not 1;", 3, 12);
    }

    private static void parts() {
        Doc.says(TERMS, "PART: NUMBER | VALUE | PARAM | '(' EXPR ')'.");
        isWorth("6", 6);
        isWorth("club", 7);
        isWorth("gap", 60);
        isWorth("(0 or 6)", 1);
        isWorth("(1 + 2) * (3 + 4)", 21);
        isWorth("2 * (1 < 2)", 2);
        isWorth("(not 0) + 1", 2);
        faults("penalty ();", 1, 9);
        faults("penalty (1;", 1, 10);
        faults("penalty 1);", 1, 9);
        faults("penalty (1));", 1, 11);
        faults("penalty (1 2);", 1, 11);
    }

    /** Each level waits for five others: or, and, a test, a sum, a product. */
    private static void mostParts() {
        Doc.says(TERMS, "PART: NUMBER | VALUE | PARAM | '(' EXPR ')'.");
        String level = "0 or 1 and 2 < 2 + 1 * ";
        String opened = times(5, level + "(") + level;
        isWorth(opened + "1)))))", 1);
        isWorth(opened + "0)))))", 0);
        isWorth("7 unless " + opened + "1)))))", 0);
        isWorth("7 unless " + opened + "0)))))", 7);
    }

    private static void values() {
        Doc.says(TERMS, "VALUE: missed wrong run score posts club free.");
        String[] names = {"missed", "wrong", "run", "score", "posts", "club", "free"};
        int[] due = {2, 1, 30, 4, 3, 7, 0};
        for (int i = 0; i < names.length; i++) {
            isWorth(names[i], due[i]);
        }
        MapRun free = Make.race(true, 0);
        Check.rules(free, "penalty free;");
        Check.same("free", free.judged(0, 6, 100), 1);
    }

    private static void fromTheLeft() {
        Doc.says(TERMS, "From the left");
        isWorth("20 - 5 - 3", 12);
        isWorth("20 - 5 + 3", 18);
        isWorth("100 / 5 / 2", 10);
        isWorth("100 / 5 * 2", 40);
        isWorth("7 / 2 * 2", 6);
        isWorth("2 * 7 / 4", 3);
        isWorth("0 and 0 or 1", 1);
        isWorth(times(90, "0 or ") + "1", 1);
        isWorth(times(90, "0 or ") + "0", 0);
        isWorth(times(80, "1 and ") + "1", 1);
        isWorth(times(80, "1 and ") + "0", 0);
        isWorth(times(80, "1 and ") + "0 or 2", 1);
        isWorth(times(120, "3 + ") + "1", 361);
        isWorth("1" + times(120, " - 3"), -359);
        isWorth(times(120, "1 * ") + "7", 7);
        isWorth("3" + times(12, " * 2") + times(12, " / 2"), 3);
    }

    private static void wrap() {
        Doc.says(TERMS, "ints that wrap");
        isWorth("65536 * 32768 < 0", 1);
        isWorth("65536 * 32768 - 1 < 0", 0);
        isWorth("65536 * 32767 + 65535 + 1 = 65536 * 32768", 1);
        isWorth("65536 * 32767 + 65535 + 1 < 0", 1);
        isWorth("65536 * 65536 + 3", 3);
        // 99999 times 99999 is 9999800001, that is 1409865409 beyond two wraps
        isWorth("99999 * 99999 / 14100 / 11", 9090);
        isWorth("99999 * 99999 - 14098 * 99999 - 79507 + 5", 5);
        isWorth("0 - 65536 * 32768 = 65536 * 32768", 1);
    }

    private static void divide() {
        Doc.says(TERMS, "/ cut down to 0");
        isWorth("7 / 2", 3);
        isWorth("(0 - 7) / 2", -3);
        isWorth("7 / (0 - 2)", -3);
        isWorth("(0 - 7) / (0 - 2)", 3);
        isWorth("1 / 2", 0);
        isWorth("(0 - 1) / 2", 0);
        isWorth("65536 * 32768 / (0 - 1) = 65536 * 32768", 1);
        Doc.says(TERMS, "by 0 gives 0");
        isWorth("7 / 0", 0);
        isWorth("0 / 0", 0);
        isWorth("5 + 7 / (gap - 60)", 5);
        isWorth("65536 * 32768 / 0", 0);
    }

    private static void truth() {
        Doc.says(TERMS, "tests, not, and, or are 1 or 0");
        isWorth("3 < 5", 1);
        isWorth("5 < 5", 0);
        isWorth("6 < 5", 0);
        isWorth("(0 - 1) < 0", 1);
        isWorth("5 = 5", 1);
        isWorth("5 = 6", 0);
        isWorth("not 0", 1);
        isWorth("not 5", 0);
        isWorth("2 and 4", 1);
        isWorth("0 and 4", 0);
        isWorth("2 or 4", 1);
        isWorth("0 or 0", 0);
        isWorth("5", 5);
        isWorth("(5)", 5);
        Doc.says(TERMS, "(what isn't 0 holds)");
        isWorth("(0 - 1) and 2", 1);
        isWorth("2 and (0 - 1)", 1);
        isWorth("0 or (0 - 1)", 1);
        isWorth("(0 - 1) or 0", 1);
        isWorth("not (0 - 1)", 0);
        isWorth("9 unless (0 - 1)", 0);
        isWorth("65536 * 32768 and 1", 1);
    }

    private static void unless() {
        Doc.says(TERMS, "EXPR 'unless' EXPR: 0 if the second holds, else the first.");
        isWorth("9 unless 0", 9);
        isWorth("9 unless 1", 0);
        isWorth("9 unless 2", 0);
        isWorth("0 - 9 unless 3 < 3", -9);
        isWorth("9 unless 0 or 1", 0);
        isWorth("1 or 0 unless 1 and 0", 1);
    }

    private static void firstFault() {
        Doc.says(TERMS, "FAULTS, the first along the text");
        faults("penalty fog ? 123456", 3, 8);
        faults("penalty ? fog", 1, 8);
        faults("penalty 123456 fog", 2, 8);
        faults("set fog fog", 3, 4);
        faults("out 0; out 0; out ; out fog;", 1, 18);
        faults("penalty 1 out fog;", 1, 10);
        faults("set gap 1 set fog 2;", 1, 10);
        Doc.says(TERMS, "at a TOKEN's first byte");
        faults("penalty   foggy;", 3, 10);
        faults("penalty\n\n1234567;", 2, 9);
        faults("penalty 1   unless   unless;", 3, 21);
        faults("   fog", 1, 3);
    }

    private static void cantStand() {
        Doc.says(TERMS, "1 a TOKEN that can't stand there");
        faults("missed;", 1, 0);
        faults("not 1;", 1, 0);
        faults("(1);", 1, 0);
        faults("123456;", 1, 0);
        faults("fog;", 1, 0);
        faults("penalty 1 fog;", 1, 10);
        faults("penalty 1 penalty 2;", 1, 10);
        faults("penalty 1 not 2;", 1, 10);
        faults("penalty 1 123456;", 1, 10);
        faults("penalty 1 (2);", 1, 10);
        faults("penalty (1 ; 2);", 1, 11);
        faults("penalty <1;", 1, 8);
        faults("penalty 1;;", 1, 10);
        faults("set gap fog;", 1, 8);
        faults("set gap 5 5;", 1, 10);
        faults("set ( 5;", 1, 4);
        faults("set 123456 5;", 1, 4);
    }

    private static void noToken() {
        Doc.says(TERMS, "or is none");
        String[] none = {"?", "A", "Z", "@", "[", "`", "{", ">", ",", ".", ":", "_", "\"", "\t", "" + (char) 0,
            "" + (char) 127, "" + (char) 128, "" + (char) 255};
        for (String sign : none) {
            faults(sign, 1, 0);
            faults("penalty " + sign, 1, 8);
            faults("penalty 1 " + sign, 1, 10);
            faults("set " + sign, 1, 4);
            faults("set gap " + sign, 1, 8);
            faults("penalty ((((((" + sign, 1, 14);
        }
    }

    private static void endsTooSoon() {
        Doc.says(TERMS, "(the text's length where it ends too soon)");
        String[] texts = {"penalty", "penalty 1", "penalty 1 ", "penalty (", "penalty (1", "penalty 1 +", "penalty 1 <",
            "penalty 1 or", "penalty not", "penalty 1 unless", "penalty 1 unless 2", "set", "set gap", "set gap 1",
            "set gap 1\n\n", "out 1; out", "penalty ((((((", "penalty " + SIX_NOTS};
        for (String text : texts) {
            faults(text, 1, text.length());
        }
        MapRun x = new MapRun();
        Check.feed(x, "out 1; out");
        Check.same("of these bytes alone", x.rules(5), 1);
        Check.same("not of the tape", x.fault(), 5);
        Check.feed(x, "out 123456;");
        Check.same("five digits of six", x.rules(9), 1);
        Check.same("the end behind them", x.fault(), 9);
        Check.feed(x, "outs 1;");
        Check.same("three letters of four", x.rules(3), 1);
        Check.same("the end behind them too", x.fault(), 3);
        Check.feed(x, "out free;");
        Check.same("three letters of a value", x.rules(7), 3);
        Check.same("which are none", x.fault(), 4);
        Check.feed(x, "out 1 or 1;");
        Check.same("one letter of two", x.rules(7), 1);
        Check.same("which can't stand there", x.fault(), 6);
    }

    private static void sixDigits() {
        Doc.says(TERMS, "2 one that can, but is too much: a NUMBER of 6 digits or more");
        faults("penalty 100000;", 2, 8);
        faults("penalty 000000;", 2, 8);
        faults("penalty 99999999999;", 2, 8);
        faults("penalty 1 + 123456;", 2, 12);
        faults("penalty (123456);", 2, 9);
        faults("penalty 1 unless 123456;", 2, 17);
        faults("set gap 123456;", 2, 8);
        faults("set gap 000001;", 2, 8);
        reads("penalty 99999; set gap 99999;");
        faults("penalty 1 000000;", 1, 10);
    }

    private static void twentyFirstClause() {
        Doc.says(TERMS, "the first TOKEN of the 21st CLAUSE");
        String twenty = times(10, "out 0;set gap 1;");
        reads(twenty);
        reads(twenty + " \n ");
        faults(twenty + "out 0;", 2, twenty.length());
        faults(twenty + " penalty 0;", 2, twenty.length() + 1);
        faults(twenty + "\n\nset", 2, twenty.length() + 2);
        faults(twenty + "out fog", 2, twenty.length());
        faults(twenty + "fog", 1, twenty.length());
        faults(twenty + ";", 1, twenty.length());
        faults(twenty + "123456", 1, twenty.length());
        faults(twenty + "?", 1, twenty.length());
        comesTo(times(20, "penalty 1;"), 20);
    }

    private static void tooDeep() {
        Doc.says(TERMS, "of an EXPR within 6 others (a NUMBER, any word, a parenthesis)");
        isWorth("(((((5)))))", 5);
        isWorth("1 + (((((5))))) * (((((2)))))", 11);
        isWorth("1 unless (((((0)))))", 1);
        String[] joins = {"0 or ", "1 and ", "0 + ", "5 - ", "1 * ", "1 / ", "0 < ", "5 = ", "not "};
        for (String join : joins) {
            for (int many = 1; many < 9; many += 7) {
                String row = join.matches(".*[<=t] ") ? join : times(many, join);
                reads("penalty " + row + "(((((5)))));");
                faults("penalty " + row + "((((((5", 2, 8 + row.length() + 6);
                reads("penalty (" + row + "((((5))))" + ");");
                faults("penalty (" + row + "(((((5", 2, 9 + row.length() + 5);
            }
        }
        faults("penalty ((((((5))))));", 2, 14);
        faults("penalty (((((( 123456", 2, 15);
        faults("penalty ((((((gap", 2, 14);
        faults("penalty ((((((not 1", 2, 14);
        faults("penalty ((((((fog", 2, 14);
        faults("penalty ((((((unless", 2, 14);
        faults("penalty ((((((((", 2, 14);
        faults("penalty 1 unless ((((((1", 2, 23);
        faults("penalty (1 + (2 * (3 < (4 or (not (5))))));", 2, 35);
        isWorth("(1 + (2 * (3 < (4 or (not 5)))))", 1);
        faults("penalty (((((()))))) ;", 1, 14);
        faults("penalty ((((((;", 1, 14);
        faults("penalty ((((((-1", 1, 14);
        faults("penalty ((((((=", 1, 14);
    }

    private static void sevenNots() {
        Doc.says(TERMS, "the seventh 'not' side by side");
        isWorth(SIX_NOTS + "5", 1);
        String[] words = {"limit", "gap", "window", "missed", "wrong", "run", "score", "posts", "club", "free"};
        for (String word : words) {
            isWorth(SIX_NOTS + word, word.equals("free") ? 0 : 1);
        }
        faults("penalty " + SIX_NOTS + "not 5;", 2, 8 + SIX_NOTS.length());
        faults("penalty " + SIX_NOTS + "not not", 2, 8 + SIX_NOTS.length());
        faults("penalty " + SIX_NOTS + "\n\nnot", 2, 8 + SIX_NOTS.length() + 2);
        isWorth(SIX_NOTS + "(" + SIX_NOTS + "0)", 0);
        isWorth(SIX_NOTS + "1 and " + SIX_NOTS + "1", 1);
        isWorth(SIX_NOTS + "0 or " + SIX_NOTS + "1", 1);
        isWorth("5 unless " + SIX_NOTS + "0", 5);
        faults("penalty 1 or " + SIX_NOTS + "not 5;", 2, 13 + SIX_NOTS.length());
        faults("penalty " + SIX_NOTS + "fog;", 3, 8 + SIX_NOTS.length());
        faults("penalty " + SIX_NOTS + "nots;", 3, 8 + SIX_NOTS.length());
    }

    private static void noSuchPart() {
        Doc.says(TERMS, "3 a word where a PART must stand that is none of these");
        String[] none = {"fog", "penalty", "out", "set", "unless", "or", "and", "limits", "ga", "x"};
        for (String word : none) {
            faults("penalty " + word, 3, 8);
            faults("penalty not " + word, 3, 12);
            faults("penalty (" + word, 3, 9);
            faults("penalty 1 + " + word, 3, 12);
            faults("penalty 1 * " + word, 3, 12);
            faults("penalty 1 = " + word, 3, 12);
            faults("penalty 1 or " + word, 3, 13);
            faults("penalty 1 and " + word, 3, 14);
            faults("penalty 1 unless " + word, 3, 17);
        }
        faults("penalty 1 / not 1;", 3, 12);
        faults("penalty 1 - not 1;", 3, 12);
    }

    private static void noSuchParam() {
        Doc.says(TERMS, "where a PARAM must that is none.");
        String[] none = {"fog", "missed", "run", "set", "penalty", "not", "gaps", "windo", "limitgap"};
        for (String word : none) {
            faults("set " + word + " 3;", 3, 4);
        }
    }

    private static void penalty() {
        Doc.says(TERMS, "PENALTY: the sum of all 'penalty'");
        comesTo("penalty 3; out 50; penalty 4; set gap 9; penalty 0 - 2;", 5);
        comesTo("out 50;", 0);
        comesTo(times(20, "penalty 99999;"), 20 * 9999);
        Doc.says(TERMS, "(of each -9999 to 9999: what is beyond is taken for these)");
        isWorth("9999", 9999);
        isWorth("10000", 9999);
        isWorth("99999", 9999);
        isWorth("0 - 9999", -9999);
        isWorth("0 - 10000", -9999);
        isWorth("65536 * 32768", -9999);
        comesTo("penalty 10000; penalty 0 - 1;", 9998);
        comesTo("penalty 0 - 10000; penalty 9999; penalty 1;", 1);
    }

    private static void out() {
        Doc.says(TERMS, "OUT: if some 'out' isn't 0.");
        MapRun x = Make.race(false);
        x.event(2, 0, 0, 50);
        String[] outs = {"out 1;", "out 0 - 1;", "out 99999;", "out 0; out 2;", "out 2; out 0;", "out 1; out 0 - 1;",
            "out 3 unless 0;"};
        for (String text : outs) {
            Check.rules(x, text);
            Check.same(text, x.judged(0, 0, 100), 2);
        }
        String[] ins = {"", "out 0;", "out 0; out 0;", "penalty 1;", "out 3 unless 1;", "set limit 1;"};
        for (String text : ins) {
            Check.rules(x, text);
            Check.same(text, x.judged(0, 0, 100), 4);
        }
    }

    private static void valuesAsKnown() {
        Doc.says(TERMS, "VALUES are of the RUNNER as known");
        MapRun x = Make.race(false, 0, 1);
        Check.rules(x, "penalty missed * 1000 + wrong * 100 + score * 10 + (run = 50);");
        Make.punch(x, 0, 1, 10);
        x.event(2, 0, 0, 50);
        x.go(1);
        Make.punch(x, 0, 0, 5, 4, 9);
        Check.same("at 99", x.judged(0, 6, 99), 2000);
        Check.same("at 100", x.judged(0, 6, 100), 1000 + 20 + 1);
        Check.same("at 101", x.judged(0, 6, 101), 100 + 30 + 1);
        Doc.says(TERMS, "(posts: of its ROW; free: 1 on a FREE COURSE).");
        MapRun y = Make.course(false, 0, 0);
        y.add(0, 1, 2, 3);
        y.course(true);
        y.runner(0, 0, 0);
        y.runner(1, 0, 0);
        Check.rules(y, "penalty posts * 10 + free;");
        Check.same("three places in order", y.judged(0, 6, 0), 30);
        Check.same("none, free", y.judged(1, 6, 0), 1);
    }

    private static void lastSet() {
        Doc.says(TERMS, "PARAMS: the last 'set'");
        comesTo("set gap 5; penalty gap; set gap 8;", 8);
        comesTo("penalty gap + limit; set gap 0; set limit 00002;", 2);
        MapRun x = new MapRun();
        Check.rules(x, "set window 5; set limit 6;");
        Check.same("of these rules", x.count(10), 5);
        Check.rules(x, "set limit 99999;");
        Check.same("the last", x.count(8), 99999);
        Doc.says(TERMS, "without: limit 3600, gap 60, window 900.");
        Check.same("not set any more", x.count(10), 900);
        Check.rules(x, "");
        Check.same("limit", x.count(8), 3600);
        Check.same("gap", x.count(9), 60);
        Check.same("window", new MapRun().count(10), 900);
    }

    private static void feed() {
        Doc.says("Promise 22", "Twenty bytes come behind the tape, of each number the highest first: how many it has");
        MapRun x = new MapRun();
        Check.same("twenty", x.feed(0x73657420, 0x6761700a, 0x20202020, 0x20202020, 0x20202020), 20);
        Check.same("forty", x.feed(0x2020_3132, 0x33343b20, 0x20202020, 0x20202020, 0x20202020), 40);
        Check.same("the tape", x.count(7), 40);
        Check.same("read as set gap 1234;", x.rules(27), 0);
        Check.same("its number", x.count(9), 1234);
        for (int at = 0; at < 20; at++) {
            int[] numbers = {0x20202020, 0x20202020, 0x20202020, 0x20202020, 0x20202020};
            numbers[at / 4] ^= 0xe0 << 24 - 8 * (at % 4);
            MapRun y = new MapRun();
            y.feed(numbers[0], numbers[1], numbers[2], numbers[3], numbers[4]);
            Check.same("a byte 192 at " + at, y.rules(20), 1);
            Check.same("there", y.fault(), at);
        }
    }

    private static void feedFull() {
        Doc.says("Promise 22", "NONE, and none come, if it would have more than 500.");
        MapRun x = new MapRun();
        for (int i = 1; i <= 25; i++) {
            Check.same("feed " + i, x.feed(0x20202020, 0x20202020, 0x20202020, 0x20202020, 0x20202020), 20 * i);
        }
        Check.same("one more", x.feed(-1, -1, -1, -1, -1), -1);
        Check.same("none came", x.count(7), 500);
        Check.same("nor over the first ones", x.rules(500), 0);
        Check.same("room again", x.feed(0, 0, 0, 0, 0), 20);
    }

    private static void rules() {
        Doc.says("Promise 23", "The tape's first n bytes (it is empty then) are RULES: 0");
        MapRun x = Make.judgedByRules();
        Check.feed(x, "penalty 5; penalty 6; ????");
        Check.same("the first ten", x.rules(10), 0);
        Check.same("no more of them", x.judged(0, 6, 40), 5);
        Check.same("empty", x.count(7), 0);
        Check.badArgument("nothing is left", () -> x.rules(1));
        Doc.says("Promise 23", "or the FAULT (those ahead stay).");
        Check.same("1", Check.rules(x, "penalty 1; set gap 4; ?"), 1);
        Check.same("empty", x.count(7), 0);
        Check.same("2", Check.rules(x, "penalty 1; set gap 4; out 123456;"), 2);
        Check.same("3", Check.rules(x, "penalty 1; set gap 4; out fog;"), 3);
        Check.same("the rules ahead", x.judged(0, 6, 40), 5);
        Check.same("the params ahead", x.count(9), 60);
    }

    private static void rulesRefused() {
        Doc.says("Promise 23", "IllegalArgumentException: the tape has not so many");
        MapRun x = Make.judgedByRules();
        Check.rules(x, "penalty 5;");
        Check.rules(x, "  ?");
        Check.badArgument("1 of none", () -> x.rules(1));
        Check.feed(x, "penalty 7; out 1;   ");
        int[] more = {21, 500, 501, Integer.MAX_VALUE};
        for (int n : more) {
            Check.badArgument(n + " of 20", () -> x.rules(n));
        }
        Doc.says("Promise 23", "n below 0 (nothing changes).");
        Check.badArgument("-1", () -> x.rules(-1));
        Check.badArgument("least", () -> x.rules(Integer.MIN_VALUE));
        Check.same("the tape", x.count(7), 20);
        Check.same("the rules", x.judged(0, 6, 40), 5);
        Check.same("the fault", x.fault(), 2);
        Check.same("all twenty", x.rules(20), 0);
        Check.same("as they were", x.judged(0, 6, 40), 7);
    }

    private static void fault() {
        Doc.says("Promise 24", "The place of the latest rules()'s or track()'s FAULT");
        MapRun x = Make.judgedByRules();
        Check.rules(x, "   ?");
        Check.same("of rules", x.fault(), 3);
        Check.same("asked again", x.fault(), 3);
        Check.track(x, 0, "  u");
        Check.same("of a track", x.fault(), 2);
        Check.rules(x, "?");
        Check.same("of rules again", x.fault(), 0);
        Doc.says("Promise 24", "NONE without.");
        Check.same("a new object", new MapRun().fault(), -1);
        Check.rules(x, "");
        Check.same("rules without", x.fault(), -1);
        Check.rules(x, "?");
        Check.track(x, 0, "");
        Check.same("a track without", x.fault(), -1);
    }
}
