/** For each promise of the document what it says of ordinary calls, of edges and of wrong ones, worked out by hand. */
public final class PromiseTests {
    private static final int NONE = RankFord.NONE;

    /**
     * DEPTHS: 0 alone 12, with 1 10, with 2 5; 1 with 0 13, with 2 7; 2 with 0 9, with 1 6.
     * So 0 CAN alone, 1 with 2, 2 with 1, and nobody else anyhow.
     */
    private static final String THREE = "ford 12 1;person 15 9 2;person 8 5 3;person 6 20 1;"
            + "thinks 0 0 12;thinks 1 1 9;thinks 1 2 4;thinks 2 2 6;thinks 2 1 0;thinks 2 0 3;thinks 0 2 5";
    /** 0 CAN not alone, but with 1 or 2, who CAN alone. */
    private static final String PORTERS = "ford 10 0;person 5 9 0;person 20 0 0;person 20 0 3;thinks 0 0 20";
    private static final String ONE = "ford 0 0;person 0 7 0";

    private static final Checks t = new Checks();

    public static void main(String[] args) {
        newObject();
        feed();
        end();
        ford();
        fordFaults();
        rule();
        ruleFaults();
        ruleLimits();
        force();
        person();
        thinksAndDepth();
        day();
        dayByRules();
        words();
        reckoning();
        tests();
        cross();
        remark();
        pay();
        flood();
        undo();
        ahead();
        over();
        most();
        fewest();
        ring();
        oneRemark();
        rise();
        fair();
        self();
        hired();
        rests();
        price();
        note();
        ruledAndLook();
        behindTheFirstAndTheLastDay();
        seed();
        fairs();
        count();
        images();
        withoutFord();
        edges();
        dayByDay();
        sixPeople();
        sixRules();
        sixUnlike();
        nothingLeftOfFaults();
        nothingLeftOfAsking();
        lastDay();
        t.finish("PromiseTests");
    }

    private static void counts(int promise, RankFord f, int... wanted) {
        for (int what = 0; what < wanted.length; what++) {
            t.due(promise, "count(" + what + ")", f.count(what), wanted[what]);
        }
    }

    private static void newObject() {
        counts(1, new RankFord(), 0, 0, 0, 0, NONE, 0, 0, 0, 0, 0, 0, 0);
        t.due(1, "NONE", RankFord.NONE, -1);
    }

    private static void feed() {
        RankFord f = new RankFord();
        t.due(2, "feed", f.feed(0x666f7264, 0x20372033, 0x3b706572, 0x736f6e20, 0x31203220), 20);
        t.due(2, "feed", f.feed(0x33202020, -1, -1, -1, -1), 40);
        f.end(21);
        t.due(2, "ford of what was fed", f.ford(), 1);
        counts(2, f, 7, 3, 1);
        t.due(2, "PURSE that was fed", f.person(0, 1), 2);
        for (int i = 1; i <= 20; i++) {
            t.due(2, "feed", f.feed(i, i, i, i, i), 20 * i);
        }
        t.due(2, "feed beyond 400", f.feed(1, 1, 1, 1, 1), NONE);
        t.due(2, "count(11)", f.count(11), 400);
        f.end(381);
        t.due(2, "feed of 20 to 381", f.feed(1, 1, 1, 1, 1), NONE);
        t.due(2, "count(11)", f.count(11), 381);
        f.end(380);
        t.due(2, "feed of 20 to 380", f.feed(1, 1, 1, 1, 1), 400);
    }

    private static void end() {
        RankFord f = new RankFord();
        t.due(3, "end(0)", f.end(0), 0);
        t.due(3, "end(1)", f.end(1), NONE);
        Checks.put(f, "ford 1 2;go");
        t.due(3, "end(12)", f.end(12), NONE);
        t.due(3, "end(-1)", f.end(-1), NONE);
        t.due(3, "count(11)", f.count(11), 11);
        t.due(3, "end(8)", f.end(8), 8);
        t.due(3, "ford()", f.ford(), 0);
    }

    private static void ford() {
        RankFord f = new RankFord();
        Checks.rule(f, "go 1");
        f.force(0);
        f.seed(77);
        t.due(4, "ford", Checks.ford(f, THREE), 3);
        counts(4, f, 12, 1, 3, 1, 0, 0, 0, 34, 0, 0, 77, 0);
        f.day();
        f.note(1, 0, 1);
        f.flood(3);
        t.due(4, "wrong ford", Checks.ford(f, "ford 9 9"), Checks.fault(7, 1));
        counts(4, f, 3, 1, 3, 1, 0, 1, f.count(6), 34, 1, 2, 77, 0);
        t.due(4, "ford in place of it", Checks.ford(f, "  ford005 02  ;  person7 8 9  "), 1);
        counts(4, f, 5, 2, 1, 1, 0, 0, 0, 8, 0, 0, 77, 0);
        t.due(4, "undo behind it", f.undo(), NONE);
        t.due(4, "HEIGHT", f.person(0, 0), 7);
        t.due(4, "FEE", f.person(0, 2), 9);
        t.due(4, "THINKS without", f.thinks(0, 0), 10);
        t.due(4, "greatest", Checks.ford(f, "ford 60 5;person 60 99 9;thinks 0 0 20;thinks 0 0 0"), 1);
        counts(4, f, 60, 5, 1, 1, 0, 0, 0, 99);
        t.due(4, "the last told", f.thinks(0, 0), 0);
        t.due(4, "six", Checks.ford(f, "ford0 0" + ";person0 0 0".repeat(6)), 6);
        t.due(4, "nobody", Checks.ford(f, "ford 1 1"), 0);
    }

    private static void fordFault(String text, int place, int why) {
        RankFord f = Checks.made(ONE);
        t.due(4, "ford of '" + text + "'", Checks.ford(f, text), Checks.fault(place, why));
        t.due(4, "PEOPLE behind it", f.count(2), 1);
        t.due(4, "TAPE behind it", f.count(11), 0);
        t.due(4, "feed behind it", f.feed(0, 0, 0, 0, 0), 20);
    }

    private static void fordFaults() {
        fordFault("", 0, 0);
        fordFault("   ", 3, 0);
        fordFault("ford", 4, 0);
        fordFault("ford 0  ", 8, 0);
        fordFault("ford 61 0", 5, 1);
        fordFault("ford 0 6", 7, 1);
        fordFault("ford 000001 0", 5, 1);
        fordFault("ford x 0", 5, 0);
        fordFault("ford -1 0", 5, 0);
        fordFault("person 0 0 0", 0, 4);
        fordFault(" thinks 0 0 0", 1, 4);
        fordFault("go 1", 0, 0);
        fordFault("fords 0 0", 0, 0);
        fordFault("Ford 0 0", 0, 0);
        fordFault("foRd 0 0", 0, 0);
        fordFault("ford 0 0;", 9, 0);
        fordFault("ford 0 0; ", 10, 0);
        fordFault("ford 0 0 0", 9, 0);
        fordFault("ford 0 0\0", 8, 0);
        fordFault("ford 0 0\u00e9", 8, 0);
        fordFault("ford 0 0;;person 0 0 0", 9, 0);
        fordFault("ford 0 0; ford 0 0", 10, 4);
        fordFault("ford 0 0;person 61 0 0", 16, 1);
        fordFault("ford 0 0;person 0 100 0", 18, 1);
        fordFault("ford 0 0;person 0 0 10", 20, 1);
        fordFault("ford 0 0;person 0 0;", 19, 0);
        fordFault("ford 0 0;thinks 0 0 0", 16, 1);
        fordFault("ford 0 0;person 0 0 0;thinks 0 1 0", 31, 1);
        fordFault("ford 0 0;person 0 0 0;thinks 0 0 21", 33, 1);
        fordFault("ford 0 0;person 0 0 0;thinks 0 1 0;person 0 0 0", 31, 1);
        fordFault("ford0 0" + ";person0 0 0".repeat(7), 80, 4);
        fordFault("ford0 0" + ";person0 0 0".repeat(6) + ";persons0 0 0", 80, 0);
    }

    private static void rule() {
        RankFord f = new RankFord();
        for (int i = 0; i < 6; i++) {
            t.due(5, "rule", Checks.rule(f, " go 1 "), i);
            t.due(5, "TAPE behind it", f.count(11), 0);
            t.due(5, "RULES", f.count(3), i + 1);
        }
        t.due(5, "seventh", Checks.rule(f, "go 1"), NONE);
        t.due(5, "TAPE behind it", f.count(11), 4);
        t.due(5, "RULES", f.count(3), 6);
        t.due(5, "seventh, wrong", Checks.rule(f, "go go"), NONE);
        t.due(5, "TAPE behind it", f.count(11), 5);
        t.due(5, "seventh, empty", Checks.rule(f, ""), NONE);
    }

    private static void ruleText(String text, int want) {
        RankFord f = new RankFord();
        t.due(5, "rule of '" + text + "'", Checks.rule(f, text), want);
        t.due(5, "RULES behind it", f.count(3), want == 0 ? 1 : 0);
        t.due(5, "TAPE behind it", f.count(11), 0);
        t.due(5, "feed behind it", f.feed(0, 0, 0, 0, 0), 20);
    }

    private static void ruleFault(String text, int place, int why) {
        ruleText(text, Checks.fault(place, why));
    }

    private static void ruleFaults() {
        ruleFault("", 0, 0);
        ruleFault("go", 2, 0);
        ruleFault("ford 0 0", 0, 0);
        ruleFault("gos 1", 0, 0);
        ruleFault("go x", 3, 0);
        ruleFault("go if", 3, 0);
        ruleFault("go 1 2", 5, 0);
        ruleFault("go 1;", 5, 0);
        ruleFault("go 1;;go 1", 5, 0);
        ruleFault("go 100000", 3, 1);
        ruleFault("go 5 %", 6, 0);
        ruleFault("go - 5", 3, 0);
        ruleFault("go [1]", 3, 0);
        ruleFault("go 1 < 2", 5, 0);
        ruleFault("go 1 if", 7, 0);
        ruleFault("go 1 if 1", 9, 0);
        ruleFault("go 1 if 1 and 1 = 1", 10, 0);
        ruleFault("go 1 iff 1 = 1", 5, 0);
        ruleFault("go 1 if 1 < = 2", 12, 0);
        ruleFault("go 1 if 1 =< 2", 11, 0);
        ruleFault("go 1 if 1 = 1 = 1", 14, 0);
        ruleFault("go 1 if self = 1]", 16, 0);
        ruleFault("go 1 if [1=1", 12, 0);
        ruleFault("go 1 if [1=1;go 1", 12, 0);
        ruleFault("go 1 if [1=1]+1", 13, 0);
        ruleFault("go 1 if [1=1] 2", 14, 0);
        ruleFault("go 1 if [1=1]]", 13, 0);
        ruleFault("go 1 if []", 9, 0);
        ruleFault("go 1 if not", 11, 0);
        ruleFault("go 1 if 1 not = 1", 10, 0);
        ruleFault("go 1 if 1=1 or", 14, 0);
        ruleFault("go 1 if 1=1 or;", 14, 0);
        ruleFault("go 1 if 1=1 if 1=1", 12, 0);
        ruleText("go1if1=1;go2", 0);
        ruleText("go 99999 + person*with/alone%depth-height if not[purse<fee or thinks<=self]and here=over or day>=1 and 2>1", 0);
    }

    private static void ruleLimits() {
        ruleText("go1;".repeat(11) + "go1", 0);
        ruleFault("go1;".repeat(12) + "go1", 48, 4);
        ruleFault("go1;".repeat(12) + "gox", 48, 0);
        ruleFault("go1;".repeat(12), 48, 0);
        ruleText("go 1 if " + "not ".repeat(10) + "1=1", 0);
        ruleFault("go 1 if " + "not ".repeat(11) + "1=1", 48, 2);
        ruleText("go 1 if " + "[".repeat(10) + "1=1" + "]".repeat(10), 0);
        ruleFault("go 1 if " + "[".repeat(11) + "1=1" + "]".repeat(11), 18, 2);
        ruleFault("go 1 if " + "not[".repeat(5) + "1=1 and not 1=1", 36, 2);
        ruleText("go 1 if " + "not ".repeat(10) + "1=1 or " + "not[".repeat(5) + "1=1" + "]".repeat(5) + "and not 1=1", 0);
        ruleText("go 1" + "+1".repeat(59), 0);
        ruleFault("go 1" + "+1".repeat(60), 123, 3);
        ruleFault("go 1" + "+1".repeat(59) + "+100000", 123, 1);
        ruleFault("go 1" + "+1".repeat(59) + "+x", 123, 0);
        ruleFault("go 1" + "+1".repeat(59) + ";go 1", 126, 3);
        ruleFault("go 1" + "+1".repeat(58) + " if 1=1", 125, 3);
        ruleFault("go 1" + "+1".repeat(57) + " if 1 <= 1", 127, 3);
        ruleText("go 1" + "+1".repeat(56) + " if 1<=1", 0);
    }

    private static void force() {
        RankFord f = new RankFord();
        t.due(6, "force(0) without", f.force(0), -2);
        Checks.rule(f, "go 1");
        Checks.rule(f, "go 2");
        t.due(6, "force(1)", f.force(1), NONE);
        t.due(6, "force(2)", f.force(2), -2);
        t.due(6, "force(-2)", f.force(-2), -2);
        t.due(6, "count(4)", f.count(4), 1);
        t.due(6, "force(0)", f.force(0), 1);
        t.due(6, "force(NONE)", f.force(NONE), 0);
        t.due(6, "count(4)", f.count(4), NONE);
    }

    private static void person() {
        RankFord f = Checks.made(THREE);
        int[][] wanted = {{15, 9, 2, 0}, {8, 5, 3, 0}, {6, 20, 1, 0}};
        for (int p = 0; p < 3; p++) {
            for (int what = 0; what < 4; what++) {
                t.due(7, "person(" + p + ", " + what + ")", f.person(p, what), wanted[p][what]);
            }
        }
        f.cross(0, 0);
        t.due(7, "SIDE", f.person(0, 3), 1);
        t.due(7, "person(3, 0)", f.person(3, 0), NONE);
        t.due(7, "person(-1, 0)", f.person(-1, 0), NONE);
        t.due(7, "person(0, 4)", f.person(0, 4), NONE);
        t.due(7, "person(0, -1)", f.person(0, -1), NONE);
    }

    private static void thinksAndDepth() {
        RankFord f = Checks.made(THREE);
        int[][] thinks = {{12, 10, 5}, {10, 9, 4}, {3, 0, 6}};
        int[][] depths = {{12, 10, 5}, {13, 12, 7}, {9, 6, 12}};
        for (int p = 0; p < 3; p++) {
            for (int o = 0; o < 3; o++) {
                t.due(8, "thinks(" + p + ", " + o + ")", f.thinks(p, o), thinks[p][o]);
                t.due(9, "depth(" + p + ", " + o + ")", f.depth(p, o), depths[p][o]);
            }
        }
        int[] wrong = {-1, 3, 6, Integer.MAX_VALUE, Integer.MIN_VALUE};
        for (int p : wrong) {
            t.due(8, "thinks of " + p, f.thinks(0, p), NONE);
            t.due(8, "thinks by " + p, f.thinks(p, 0), NONE);
            t.due(9, "depth of " + p, f.depth(0, p), NONE);
            t.due(9, "depth by " + p, f.depth(p, 0), NONE);
        }
        f.flood(1);
        t.due(9, "0 at least", f.depth(0, 2), 0);
        f.cross(0, 0);
        t.due(9, "on other SIDES", f.depth(1, 0), 2);
    }

    private static void day() {
        RankFord f = Checks.made(THREE);
        t.due(10, "day()", f.day(), 3);
        counts(10, f, 12, 1, 3, 0, NONE, 1, 7, 34);
        t.due(10, "PURSE of who hired", f.person(1, 1), 4);
        t.due(10, "PURSE of who was hired", f.person(2, 1), 21);
        t.due(10, "PRIDE alone", f.thinks(0, 0), 13);
        t.due(10, "PRIDE of who hired", f.thinks(1, 1), 10);
        t.due(10, "PRIDE of who was hired", f.thinks(2, 2), 7);
        t.due(10, "day() when all are over", f.day(), 0);
        t.due(10, "DAY", f.count(5), 2);
        f = Checks.made("ford 0 5;person 0 0 0;thinks 0 0 18");
        f.day();
        t.due(10, "20 at most", f.thinks(0, 0), 20);
        f = Checks.made(PORTERS);
        t.due(10, "the one of least FEE, then 2 alone", f.day(), 3);
        t.due(10, "PURSE of 0", f.person(0, 1), 9);
        f = Checks.made("ford 10 0;person 5 2 0;person 20 0 3;person 20 0 2;person 20 0 2;thinks 0 0 20");
        f.day();
        t.due(10, "of several the least", f.person(2, 1), 2);
        f = Checks.made("ford 10 0;person 5 1 0;person 20 0 3;thinks 0 0 20");
        t.due(10, "without the FEE: 1 alone", f.day(), 1);
        t.due(10, "who is over", f.count(6), 2);
        f = Checks.made("ford 10 0;person 5 0 0;person 5 9 1;thinks 0 0 20;thinks 1 1 20");
        t.due(10, "0 has no FEE, 1 hires 0", f.day(), 2);
        f = Checks.made("ford 1 1");
        t.due(10, "day() of nobody", f.day(), 0);
        t.due(10, "DAY", f.count(5), 1);
        t.due(10, "without a FORD", new RankFord().day(), NONE);
    }

    /** Who is over, as bits, behind a DAY of a FORD by a RULE. */
    private static int overBy(String ford, String rule) {
        RankFord f = Checks.made(ford);
        if (Checks.rule(f, rule) != 0) {
            return -9;
        }
        f.force(0);
        f.day();
        return f.count(6);
    }

    private static void dayByRules() {
        String two = "ford 0 0;person 0 9 1;person 0 9 2";
        t.due(10, "all alone", overBy(THREE, "go 5 if alone = 1"), 1);
        t.due(10, "all with others", overBy(THREE, "go 5 if alone = 0"), 6);
        t.due(10, "nothing above 0", overBy(THREE, "go 0"), 0);
        t.due(10, "below 0", overBy(THREE, "go 1 - 2"), 0);
        t.due(10, "no CLAUSE holds", overBy(THREE, "go 9 if 1 = 2;go 8 if 2 < 1"), 0);
        t.due(10, "the first that holds", overBy(two, "go 1 if 1 = 2;go 0 if 1 = 1;go 5"), 0);
        RankFord f = Checks.made(two);
        Checks.rule(f, "go 3");
        f.force(0);
        f.day();
        t.due(10, "alone first: no FEES", f.person(0, 1), 9);
        f = Checks.made(two);
        Checks.rule(f, "go 2;go 3");
        Checks.rule(f, "go 2 if alone = 1;go 3");
        f.force(1);
        t.due(10, "the greatest", f.day(), 2);
        t.due(10, "FEE paid", f.person(0, 1), 7);
        f = Checks.made("ford 0 0;person 0 9 0;person 0 9 1;person 0 9 2;person 0 9 3");
        Checks.rule(f, "go 1 if alone = 0 and person = 0 and with > 1");
        f.force(0);
        f.day();
        t.due(10, "then the least", f.count(6), 5);
        f = Checks.made(THREE);
        Checks.rule(f, "go 1 if over > 0 or alone = 1");
        f.force(0);
        t.due(10, "each by how all is then", f.day(), 3);
        f = Checks.made(THREE);
        Checks.rule(f, "go 1 if here = 3 and alone = 0");
        f.force(0);
        t.due(10, "2 is gone when 2 would go", f.day(), 2);
    }

    private static void words() {
        String ford = "ford 3 0;person 9 8 7;person 9 5 4;thinks 0 0 11;thinks 0 1 10";
        String[] alone = {"person = 0", "with = 0", "alone = 1", "depth = 3", "height = 9", "purse = 8", "fee = 0",
            "thinks = 11", "self = 11", "here = 2", "over = 0", "day = 0"};
        for (String test : alone) {
            t.due(10, test, overBy(ford, "go 1 if person = 0 and alone = 1 and " + test), 1);
            t.due(10, "not " + test, overBy(ford, "go 1 if person = 0 and alone = 1 and not " + test), 0);
        }
        String[] with = {"person = 0", "with = 1", "alone = 0", "depth = 2", "height = 9", "purse = 8", "fee = 4",
            "thinks = 10", "self = 11", "here = 2", "over = 0", "day = 0"};
        for (String test : with) {
            t.due(10, test, overBy(ford, "go 1 if person = 0 and alone = 0 and " + test), 3);
            t.due(10, "not " + test, overBy(ford, "go 1 if person = 0 and alone = 0 and not " + test), 0);
        }
        RankFord f = Checks.made(ford);
        Checks.rule(f, "go 1 if day = 1 and over = 1 and here = 1");
        f.force(0);
        f.cross(0, 0);
        t.due(10, "DAY 0", f.day(), 0);
        t.due(10, "DAY 1", f.day(), 1);
    }

    private static void reckoned(String sum, long worth) {
        int goes = overBy(ONE, "go 1 if " + sum + " = " + (worth < 0 ? "0 - " + -worth : "" + worth));
        t.due(10, sum + " = " + worth, goes, 1);
        t.due(10, sum + " as a SUM", overBy(ONE, "go " + sum), worth > 0 ? 1 : 0);
    }

    private static void reckoning() {
        reckoned("7 / 2", 3);
        reckoned("7 % 4", 3);
        reckoned("5 / 0", 0);
        reckoned("5 % 0", 0);
        reckoned("0 / 0", 0);
        reckoned("0 - 7 / 2", -3);
        reckoned("person - 7 + 8", 1);
        reckoned("2 - 3 - 4", -5);
        reckoned("20 / 2 / 5", 2);
        reckoned("20 - 2 * 3 + 1", 15);
        reckoned("100 % 7 * 3", 6);
        reckoned("2 * 3 % 4", 2);
        reckoned("00012", 12);
        long wide = 99999L * 99999L * 99999L * 99999L;
        t.due(10, "goes round", overBy(ONE, "go 99999 * 99999 * 99999 * 99999"), wide > 0 ? 1 : 0);
        wide *= 3;
        t.due(10, "goes round", overBy(ONE, "go 99999 * 99999 * 99999 * 99999 * 3"), wide > 0 ? 1 : 0);
        wide *= 7;
        t.due(10, "goes round", overBy(ONE, "go 99999 * 99999 * 99999 * 99999 * 3 * 7"), wide > 0 ? 1 : 0);
    }

    private static void test(String test, boolean holds) {
        t.due(10, test, overBy(ONE, "go 1 if " + test), holds ? 1 : 0);
    }

    private static void tests() {
        for (int a = 0; a <= 2; a++) {
            test(a + " < 1", a < 1);
            test(a + " <= 1", a <= 1);
            test(a + " = 1", a == 1);
            test(a + " >= 1", a >= 1);
            test(a + " > 1", a > 1);
        }
        test("1 = 1 or 1 = 1 and 1 = 2", true);
        test("[1 = 1 or 1 = 1] and 1 = 2", false);
        test("1 = 2 and 1 = 1 or 1 = 1", true);
        test("not 1 = 2 and 1 = 2", false);
        test("not [1 = 2 and 1 = 2]", true);
        test("not not 1 = 1", true);
        test("not 1 = 1 or 1 = 1", true);
        test("not [1 = 1 or 1 = 1]", false);
        test("1 + 1 = 2 * 1", true);
        test("[[1 = 1]]", true);
        test("5 < 1 + 1", false);
        test("1 + 1 > 5 - 4", true);
        test("[1 = 1]" + " and [1 = 1]".repeat(10), true);
    }

    private static void cross() {
        RankFord f = Checks.made(THREE);
        t.due(11, "cross(1, 1): CAN not", f.cross(1, 1), NONE);
        t.due(11, "cross(0, 2): CAN not", f.cross(0, 2), NONE);
        t.due(11, "acts", f.count(9), 0);
        t.due(11, "cross(2, 1)", f.cross(2, 1), 1);
        counts(11, f, 12, 1, 3, 0, NONE, 0, 6, 34, 0, 1);
        t.due(11, "PURSE", f.person(2, 1), 17);
        t.due(11, "PURSE", f.person(1, 1), 8);
        t.due(11, "PRIDE", f.thinks(2, 2), 7);
        t.due(11, "PRIDE", f.thinks(1, 1), 10);
        t.due(11, "on other SIDES", f.cross(0, 1), NONE);
        t.due(11, "back again", f.cross(1, 2), 0);
        t.due(11, "alone", f.cross(0, 0), 1);
        t.due(11, "alone back", f.cross(0, 0), 0);
        t.due(11, "cross(3, 3)", f.cross(3, 3), NONE);
        t.due(11, "cross(0, -1)", f.cross(0, -1), NONE);
        f = Checks.made("ford 10 0;person 5 0 0;person 5 9 1;thinks 0 0 20;thinks 1 1 20");
        t.due(11, "without the FEE", f.cross(0, 1), NONE);
        t.due(11, "the other way", f.cross(1, 0), 1);
    }

    private static void remark() {
        RankFord f = Checks.made(THREE);
        t.due(12, "remark(0, 1, 20)", f.remark(0, 1, 20), 10);
        t.due(12, "the same number", f.remark(0, 1, 20), NONE);
        t.due(12, "thinks", f.thinks(0, 1), 20);
        t.due(12, "of themselves", f.remark(0, 0, 0), 12);
        t.due(12, "21", f.remark(0, 0, 21), NONE);
        t.due(12, "-1", f.remark(0, 0, -1), NONE);
        t.due(12, "nobody", f.remark(3, 0, 1), NONE);
        t.due(12, "of nobody", f.remark(0, 3, 1), NONE);
        t.due(12, "acts", f.count(9), 2);
    }

    private static void pay() {
        RankFord f = Checks.made(THREE);
        t.due(13, "pay(0, 1, 9)", f.pay(0, 1, 9), 0);
        t.due(13, "PURSE", f.person(1, 1), 14);
        t.due(13, "that they have not", f.pay(1, 0, 15), NONE);
        t.due(13, "pay(1, 0, 14)", f.pay(1, 0, 14), 0);
        t.due(13, "0", f.pay(0, 1, 0), NONE);
        t.due(13, "to themselves", f.pay(0, 0, 1), NONE);
        t.due(13, "to nobody", f.pay(0, 3, 1), NONE);
        t.due(13, "by nobody", f.pay(-1, 0, 1), NONE);
        t.due(13, "acts", f.count(9), 2);
        f = Checks.made("ford 0 0;person 0 99 0;person 0 99 0");
        t.due(13, "99", f.pay(0, 1, 99), 0);
        t.due(13, "100", f.pay(1, 0, 100), NONE);
    }

    private static void flood() {
        RankFord f = Checks.made(THREE);
        t.due(14, "flood(60)", f.flood(60), 12);
        t.due(14, "the same", f.flood(60), NONE);
        t.due(14, "61", f.flood(61), NONE);
        t.due(14, "-1", f.flood(-1), NONE);
        t.due(14, "flood(0)", f.flood(0), 60);
        t.due(14, "DEEP", f.count(0), 0);
        t.due(14, "acts", f.count(9), 2);
        t.due(14, "without a FORD", new RankFord().flood(1), NONE);
    }

    private static void undo() {
        RankFord f = Checks.made(THREE);
        Checks.rule(f, "go 1");
        t.due(15, "nothing", f.undo(), NONE);
        f.day();
        f.cross(0, 0);
        f.remark(0, 1, 3);
        f.pay(0, 1, 2);
        f.flood(5);
        f.force(0);
        f.seed(5);
        f.note(1, 1, 1);
        t.due(15, "flood undone", f.undo(), 4);
        counts(15, f, 12, 1, 3, 1, 0, 1, 6, 34, 1, 4, 5);
        t.due(15, "pay undone", f.undo(), 3);
        t.due(15, "PURSE", f.person(0, 1), 9);
        t.due(15, "remark undone", f.undo(), 2);
        t.due(15, "thinks", f.thinks(0, 1), 10);
        t.due(15, "cross undone", f.undo(), 1);
        t.due(15, "thinks", f.thinks(0, 0), 13);
        t.due(15, "SIDES", f.count(6), 7);
        t.due(15, "day undone", f.undo(), 0);
        counts(15, f, 12, 1, 3, 1, 0, 0, 0, 34, 1, 0, 5);
        t.due(15, "PURSE", f.person(1, 1), 5);
        t.due(15, "thinks", f.thinks(1, 1), 9);
        t.due(15, "nothing more", f.undo(), NONE);
        for (int i = 0; i < 25; i++) {
            f.flood(20 + i);
        }
        t.due(15, "20 at most", f.count(9), 20);
        for (int i = 19; i >= 0; i--) {
            t.due(15, "undo", f.undo(), i);
        }
        t.due(15, "none", f.undo(), NONE);
        t.due(15, "the sixth flood undone", f.count(0), 24);
    }

    private static void ahead() {
        RankFord f = Checks.made(THREE);
        int[][] now = {{0, 9, 12}, {0, 5, 9}, {0, 20, 6}};
        int[][] then = {{1, 9, 13}, {1, 4, 10}, {1, 21, 7}};
        for (int p = 0; p < 3; p++) {
            for (int what = 0; what < 3; what++) {
                t.due(16, "0 DAYS", f.ahead(p, 0, what), now[p][what]);
                t.due(16, "1 DAY", f.ahead(p, 1, what), then[p][what]);
                t.due(16, "60 DAYS", f.ahead(p, 60, what), then[p][what]);
            }
        }
        counts(16, f, 12, 1, 3, 0, NONE, 0, 0, 34, 0, 0);
        t.due(16, "61", f.ahead(0, 61, 0), NONE);
        t.due(16, "-1", f.ahead(0, -1, 0), NONE);
        t.due(16, "nobody", f.ahead(3, 1, 0), NONE);
        t.due(16, "what 3", f.ahead(0, 1, 3), NONE);
        t.due(16, "what -1", f.ahead(0, 1, -1), NONE);
        Checks.rule(f, "go 1 if day = 41 and alone = 1");
        f.force(0);
        t.due(16, "41 DAYS", f.ahead(0, 41, 0), 0);
        t.due(16, "42 DAYS", f.ahead(0, 42, 0), 1);
    }

    private static void over() {
        RankFord f = Checks.made(THREE);
        t.due(17, "over()", f.over(), 1);
        f.day();
        f.day();
        t.due(17, "now", f.over(), 2);
        f = Checks.made(ONE);
        Checks.rule(f, "go 1 if day = 58");
        Checks.rule(f, "go 1 if day = 59");
        f.force(0);
        t.due(17, "at the last one", f.over(), 59);
        f.force(1);
        t.due(17, "behind it", f.over(), -2);
        f.day();
        t.due(17, "a DAY later", f.over(), 60);
        t.due(17, "nobody", Checks.made("ford 1 1").over(), 0);
        t.due(17, "without a FORD", new RankFord().over(), NONE);
    }

    private static void mosts(String ford, int... wanted) {
        RankFord f = Checks.made(ford);
        for (int what = 0; what < wanted.length; what++) {
            t.due(18, "most(" + what + ") of " + ford, f.most(what), wanted[what]);
        }
    }

    private static void most() {
        mosts(THREE, 3, 1, 0, 2, 1, -2, -2, -2);
        RankFord f = Checks.made(THREE);
        f.cross(0, 0);
        int[] wanted = {2, 1, -2, 2, 1};
        for (int what = 0; what < 5; what++) {
            t.due(18, "most(" + what + ")", f.most(what), wanted[what]);
        }
        t.due(18, "8", f.most(8), -3);
        t.due(18, "-1", f.most(-1), -3);
        t.due(18, "without a FORD", new RankFord().most(0), -3);
        mosts("ford 1 1", 0, 0, -2);
        mosts("ford 12 0;person 8 0 0", 0, 0, NONE);
        mosts("ford 0 0;person 5 9 0;person 5 9 0", 2, 0, 0, 1);
        // the one of less number hires, and has not the FEE
        mosts("ford 10 0;person 5 0 0;person 5 9 1;thinks 0 0 20;thinks 1 1 20", 0, 0, NONE, NONE);
        // all twos CAN go: the fewest COINS by hiring 1 and 3, or 2 and 3, or 3 and 2 (each for 1): the least row
        mosts("ford 10 0;person 0 9 5;person 0 9 1;person 0 9 1;person 0 9 1;"
                + "thinks 0 0 20;thinks 1 1 20;thinks 2 2 20;thinks 3 3 20", 4, 2, 1, 0, 3, 2);
        // one of three stays: the least row has 0 staying, if that costs no more
        mosts("ford 10 0;person 0 9 5;person 0 9 1;person 0 9 1;thinks 0 0 20;thinks 1 1 20;thinks 2 2 20",
                2, 1, NONE, 2, 1);
        mosts("ford 10 0;person 0 9 5;person 0 9 1;person 0 9 2;thinks 0 0 20;thinks 1 1 20;thinks 2 2 20",
                2, 1, 1, 0, NONE);
    }

    private static void fewest() {
        RankFord f = Checks.made("ford 10 0;person 5 0 0;person 5 9 1;thinks 0 0 20;thinks 1 1 20");
        t.due(19, "FEES are not looked at", f.fewest(0), 1);
        t.due(19, "who", f.fewest(1), 0);
        t.due(19, "with whom", f.fewest(2), 1);
        f = Checks.made("ford 10 3;person 20 0 0;person 5 0 0;person 5 0 0;thinks 1 1 20;thinks 2 2 20;"
                + "thinks 1 2 20;thinks 2 1 20;thinks 1 0 10;thinks 2 0 10");
        t.due(19, "to and fro", f.fewest(0), 3);
        t.due(19, "who", f.fewest(1), 0);
        t.due(19, "with whom", f.fewest(2), 1);
        f.cross(0, 1);
        t.due(19, "then", f.fewest(0), 2);
        t.due(19, "who", f.fewest(1), 0);
        t.due(19, "alone", f.fewest(2), 0);
        f.cross(0, 0);
        f.cross(0, 2);
        t.due(19, "all are over", f.fewest(0), 0);
        t.due(19, "who", f.fewest(1), NONE);
        t.due(19, "with whom", f.fewest(2), NONE);
        // three who all CAN alone and with each other: two goings; alone comes first
        f = Checks.made("ford 0 0;person 0 0 0;person 0 0 0;person 0 0 0");
        t.due(19, "two", f.fewest(0), 2);
        t.due(19, "who", f.fewest(1), 0);
        t.due(19, "alone", f.fewest(2), 0);
        f = Checks.made("ford 10 0;person 5 0 0");
        for (int what = 0; what < 3; what++) {
            t.due(19, "by none", f.fewest(what), -2);
        }
        t.due(19, "3", f.fewest(3), -3);
        t.due(19, "-1", f.fewest(-1), -3);
        t.due(19, "nobody", Checks.made("ford 1 1").fewest(0), 0);
        t.due(19, "without a FORD", new RankFord().fewest(0), -3);
    }

    private static void ring() {
        RankFord f = Checks.made(THREE);
        t.due(20, "two", f.ring(0), 2);
        t.due(20, "0 and 2", f.ring(1), 5);
        String three = "ford 0 0;person 0 0 0;person 0 0 0;person 0 0 0;person 0 0 0";
        f = Checks.made(three);
        t.due(20, "none", f.ring(0), -2);
        t.due(20, "none", f.ring(1), -2);
        f = Checks.made(three + ";thinks 1 3 9;thinks 3 2 9;thinks 2 1 9");
        t.due(20, "three", f.ring(0), 3);
        t.due(20, "1, 2, 3", f.ring(1), 14);
        f.remark(0, 1, 0);
        f.remark(1, 2, 0);
        f.remark(2, 0, 0);
        t.due(20, "two, by 1 and 2", f.ring(0), 2);
        t.due(20, "1, 2", f.ring(1), 6);
        f = Checks.made(three + ";thinks 0 1 9;thinks 1 2 9;thinks 2 3 9;thinks 3 0 9");
        t.due(20, "four", f.ring(0), 4);
        t.due(20, "all", f.ring(1), 15);
        f.remark(1, 3, 9);
        t.due(20, "three", f.ring(0), 3);
        t.due(20, "0, 1, 3", f.ring(1), 11);
        f.remark(0, 2, 9);
        t.due(20, "0, 1, 3 ahead of 0, 2, 3", f.ring(1), 11);
        t.due(20, "2", f.ring(2), NONE);
        t.due(20, "-1", f.ring(-1), NONE);
        t.due(20, "without a FORD", new RankFord().ring(0), NONE);
    }

    private static void oneRemark() {
        RankFord f = Checks.made(THREE);
        t.due(21, "all CAN", f.oneRemark(0), 3);
        t.due(21, "nothing", f.oneRemark(1), NONE);
        t.due(21, "nothing", f.oneRemark(2), NONE);
        f = Checks.made("ford 10 0;person 5 0 0;person 5 0 0;thinks 1 1 20");
        t.due(21, "both CAN", f.oneRemark(0), 2);
        t.due(21, "who", f.oneRemark(1), 0);
        t.due(21, "the least number", f.oneRemark(2), 15);
        t.due(21, "nothing changed", f.thinks(0, 0), 10);
        f = Checks.made("ford 10 0;person 5 0 0;person 5 0 1;thinks 1 1 20");
        t.due(21, "FEE too", f.oneRemark(0), 1);
        f = Checks.made("ford 10 0;person 5 0 0;person 5 0 0");
        t.due(21, "nobody CAN", f.oneRemark(0), 0);
        t.due(21, "nothing", f.oneRemark(1), NONE);
        t.due(21, "3", f.oneRemark(3), -2);
        t.due(21, "-1", f.oneRemark(-1), -2);
        t.due(21, "nobody", Checks.made("ford 1 1").oneRemark(0), 0);
        t.due(21, "without a FORD", new RankFord().oneRemark(0), -2);
    }

    private static void rise() {
        RankFord f = Checks.made(THREE);
        t.due(22, "rise(0)", f.rise(0), 16);
        t.due(22, "rise(1)", f.rise(1), 13);
        t.due(22, "rise(2)", f.rise(2), 13);
        f.cross(1, 2);
        f.cross(0, 0);
        f.cross(2, 1);
        t.due(22, "1 here with 2", f.count(6), 1);
        f.flood(50);
        t.due(22, "rise(0), whatever DEEP", f.rise(0), 16);
        t.due(22, "at none", Checks.made("ford 0 0;person 60 0 0").rise(0), -2);
        t.due(22, "at the last", Checks.made("ford 0 0;person 59 0 0").rise(0), 60);
        t.due(22, "nobody", f.rise(3), NONE);
        t.due(22, "nobody", f.rise(-1), NONE);
        t.due(22, "without a FORD", new RankFord().rise(0), NONE);
        f = Checks.made("ford 10 0;person 5 0 0;person 60 9 1;thinks 0 0 20");
        t.due(22, "without the FEE alone", f.rise(0), 6);
    }

    private static void fair() {
        RankFord f = Checks.made(THREE);
        t.due(23, "none", f.fair(), 0);
        f.flood(3);
        t.due(23, "0 and 2", f.fair(), 5);
        f.cross(0, 0);
        t.due(23, "on other SIDES too", f.fair(), 5);
        t.due(23, "one alone", Checks.made("ford 60 0;person 0 0 0").fair(), 1);
        t.due(23, "nobody", Checks.made("ford 1 1").fair(), 0);
        t.due(23, "without a FORD", new RankFord().fair(), NONE);
    }

    private static void self() {
        RankFord f = Checks.made(THREE);
        t.due(24, "self(1, 2)", f.self(1, 2), 8);
        t.due(24, "self(2, 1)", f.self(2, 1), 6);
        t.due(24, "too deep for 2", f.self(0, 2), -2);
        t.due(24, "themselves", f.self(1, 1), NONE);
        t.due(24, "nobody", f.self(1, 3), NONE);
        t.due(24, "nobody", f.self(-1, 1), NONE);
        f.cross(0, 0);
        t.due(24, "other SIDES", f.self(1, 0), NONE);
        f = Checks.made("ford 10 0;person 60 0 0;person 60 9 1");
        t.due(24, "without the FEE", f.self(0, 1), -2);
        t.due(24, "whatever they think", f.self(1, 0), 0);
    }

    private static void hired() {
        RankFord f = Checks.made(THREE);
        t.due(25, "nobody", f.hired(1, 0), NONE);
        t.due(25, "all go", f.hired(1, 1), 3);
        String poor = "ford 10 0;person 5 0 1;person 5 0 2;person 5 0 3;thinks 0 0 20;thinks 1 1 20;thinks 2 2 20";
        f = Checks.made(poor);
        t.due(25, "by 1", f.hired(1, 0), 0);
        t.due(25, "how many", f.hired(1, 1), 2);
        t.due(25, "FEE as it was", f.person(0, 2), 1);
        t.due(25, "30", f.hired(30, 1), 2);
        t.due(25, "31", f.hired(31, 0), -2);
        t.due(25, "0", f.hired(0, 0), -2);
        t.due(25, "what 2", f.hired(1, 2), -2);
        t.due(25, "what -1", f.hired(1, -1), -2);
        t.due(25, "nobody", Checks.made("ford 1 1").hired(1, 1), 0);
        t.due(25, "without a FORD", new RankFord().hired(1, 0), -2);
        Checks.rule(f, "go 1 if alone = 0 and with = 2 and person = 1 and day = 2");
        f.force(0);
        t.due(25, "2 DAYS", f.hired(2, 1), 0);
        t.due(25, "3 DAYS", f.hired(3, 1), 2);
        t.due(25, "2 whose FEE is seen", f.hired(3, 0), 2);
    }

    private static void rests() {
        RankFord f = Checks.made(PORTERS);
        t.due(26, "(0, 0), (1, 0), (1, 1)", f.rests(1, 2, 1, 0), 3);
        t.due(26, "first", f.rests(1, 2, 1, 1), 0);
        t.due(26, "first", f.rests(1, 2, 1, 2), 0);
        Checks.rule(f, "go fee + 1 if alone = 0");
        f.force(0);
        t.due(26, "4 whatever the other one asks", f.rests(1, 2, 1, 0), 5);
        t.due(26, "first of one", f.rests(1, 2, 1, 1), 4);
        t.due(26, "first of other", f.rests(1, 2, 1, 2), 0);
        t.due(26, "swapped", f.rests(2, 1, 1, 1), 0);
        t.due(26, "swapped", f.rests(2, 1, 1, 2), 4);
        t.due(26, "FEE as it was", f.person(2, 2), 3);
        t.due(26, "20", f.rests(1, 2, 20, 0), 5);
        t.due(26, "21", f.rests(1, 2, 21, 0), NONE);
        t.due(26, "0", f.rests(1, 2, 0, 0), NONE);
        t.due(26, "themselves", f.rests(1, 1, 1, 0), NONE);
        t.due(26, "nobody", f.rests(1, 3, 1, 0), NONE);
        t.due(26, "nobody", f.rests(-1, 1, 1, 0), NONE);
        t.due(26, "what 3", f.rests(1, 2, 1, 3), NONE);
        t.due(26, "what -1", f.rests(1, 2, 1, -1), NONE);
    }

    private static void price() {
        RankFord f = Checks.made(PORTERS);
        t.due(27, "as much as 2 asks", f.price(1, 0), 3);
        t.due(27, "never below 1's", f.price(2, 0), -2);
        t.due(27, "1 CAN alone", f.price(0, 1), NONE);
        t.due(27, "themselves", f.price(0, 0), NONE);
        t.due(27, "nobody", f.price(3, 0), NONE);
        t.due(27, "nobody", f.price(1, -1), NONE);
        f.remark(2, 0, 20);
        t.due(27, "2 is still there", f.price(1, 0), 3);
        f.cross(2, 2);
        t.due(27, "all that 0 has", f.price(1, 0), 9);
        f.pay(0, 1, 4);
        t.due(27, "all that 0 has", f.price(1, 0), 5);
        t.due(27, "on SIDE 1", f.price(2, 0), NONE);
        f = Checks.made("ford 10 0;person 20 9 0;person 5 9 0;thinks 1 1 20");
        t.due(27, "gone ahead of it, as the DAY goes", f.price(0, 1), -2);
        Checks.rule(f, "go 5 - fee if person = 1");
        f.force(0);
        t.due(27, "by the RULE", f.price(0, 1), 4);
    }

    private static void note() {
        RankFord f = Checks.made(THREE);
        t.due(28, "61", f.note(61, 0, 0), -2);
        t.due(28, "-2", f.note(-2, 0, 0), -2);
        t.due(28, "nobody", f.note(1, 3, 0), -2);
        t.due(28, "nobody", f.note(1, -1, 0), -2);
        t.due(28, "SIDE 2", f.note(1, 0, 2), -2);
        t.due(28, "SIDE -1", f.note(1, 0, -1), -2);
        t.due(28, "no NOTES", f.count(8), 0);
        for (int i = 1; i <= 10; i++) {
            t.due(28, "note", f.note(6 * i, i % 3, i % 2), i);
        }
        t.due(28, "eleventh", f.note(0, 0, 0), -2);
        t.due(28, "ten", f.count(8), 10);
        t.due(28, "none", f.note(NONE, -5, 7), 0);
        t.due(28, "none", f.count(8), 0);
        t.due(28, "first again", f.note(0, 0, 0), 1);
        t.due(28, "no ACT", f.count(9), 0);
    }

    private static void guessed(RankFord f, int many, int first, int day, int alike) {
        t.due(29, "ruled(0)", f.ruled(0), many);
        t.due(29, "ruled(1)", f.ruled(1), first);
        t.due(30, "look(0)", f.look(0), day);
        t.due(30, "look(1)", f.look(1), alike);
    }

    private static void ruledAndLook() {
        RankFord f = Checks.made(THREE);
        guessed(f, 1, NONE, 0, 1);
        Checks.rule(f, "go 5 if alone = 1");
        Checks.rule(f, "go 1 if day = 2 and alone = 1");
        guessed(f, 3, NONE, 0, 1);
        f.flood(60);
        f.force(0);
        f.pay(1, 0, 5);
        guessed(f, 3, NONE, 0, 1);
        f.note(0, 0, 1);
        guessed(f, 2, NONE, 0, 1);
        f.note(0, 1, 0);
        guessed(f, 1, 0, 0, 1);
        f.note(60, 0, 0);
        guessed(f, 0, -2, -2, -2);
        f.note(NONE, 0, 0);
        f.note(0, 1, 1);
        guessed(f, 1, NONE, 0, 1);
        f.note(1, 1, 0);
        guessed(f, 0, -2, -2, -2);
        f.note(NONE, 0, 0);
        f.note(1, 0, 0);
        f.note(2, 0, 1);
        guessed(f, 1, 1, 0, 1);
        f.note(NONE, 0, 0);
        Checks.rule(f, "go 1 if alone = 1");
        Checks.rule(f, "go 1 if day = 60 and alone = 1");
        guessed(f, 5, NONE, 0, 2);
        f.note(0, 0, 0);
        guessed(f, 2, 1, 2, 1);
        f.note(2, 0, 0);
        guessed(f, 1, 3, 0, 1);
        f.note(59, 0, 0);
        f.note(60, 0, 1);
        guessed(f, 1, 3, 0, 1);
        t.due(29, "2", f.ruled(2), -3);
        t.due(29, "-1", f.ruled(-1), -3);
        t.due(29, "without a FORD", new RankFord().ruled(0), -3);
        t.due(30, "2", f.look(2), NONE);
        t.due(30, "-1", f.look(-1), NONE);
        t.due(30, "without a FORD", new RankFord().look(0), NONE);
    }

    /** DAY 0 is the first, so behind it one DAY has gone by; behind DAY 60 there are 61. */
    private static void behindTheFirstAndTheLastDay() {
        RankFord f = Checks.made(ONE);
        f.note(0, 0, 0);
        guessed(f, 0, -2, -2, -2);
        f.note(NONE, 0, 0);
        f.note(0, 0, 1);
        guessed(f, 1, NONE, 0, 1);
        f.note(NONE, 0, 0);
        Checks.rule(f, "go 0");
        guessed(f, 2, NONE, 0, 1);
        f.note(0, 0, 0);
        guessed(f, 1, 0, 0, 1);
        Checks.rule(f, "go 1 if day = 60");
        Checks.rule(f, "go 1 if day = 61");
        guessed(f, 3, 0, 60, 2);
        f.note(60, 0, 0);
        guessed(f, 2, 0, 0, 2);
        f.note(NONE, 0, 0);
        f.day();
        f.note(0, 0, 1);
        guessed(f, 1, NONE, 0, 1);
        Checks.rule(f, "go 1 if day = 1");
        f.note(NONE, 0, 0);
        f.note(0, 0, 0);
        guessed(f, 4, 0, 60, 2);
        f.note(60, 0, 1);
        guessed(f, 2, 1, 1, 1);
    }

    private static void seed() {
        RankFord f = new RankFord();
        t.due(31, "seed", f.seed(Integer.MAX_VALUE), 0);
        t.due(31, "below 0", f.seed(-1), NONE);
        t.due(31, "seed", f.seed(0), Integer.MAX_VALUE);
        t.due(31, "x", f.count(10), 0);
    }

    /** From x 0 the DRAWS are 0, 21468, 9988, 22117, 3498, 16927: mod 100 0, .., .., 17; mod 21 .., .., 13, .., .., 1. */
    private static void fairs() {
        RankFord f = Checks.made(ONE);
        Checks.rule(f, "go 1 if self = 13");
        Checks.rule(f, "go 1 if self = 10");
        Checks.rule(f, "go 1 if self = 1");
        f.force(0);
        t.due(32, "0 is below 1", f.fairs(1, 1, 1, 0), 1);
        t.due(32, "COINS", f.fairs(1, 1, 1, 1), 7);
        t.due(32, "0 is not below 0", f.fairs(1, 1, 0, 0), 0);
        t.due(32, "17 is not below 17", f.fairs(2, 1, 17, 0), 1);
        f.force(1);
        t.due(32, "two times", f.fairs(2, 1, 0, 0), 2);
        t.due(32, "COINS of both", f.fairs(2, 1, 0, 1), 14);
        t.due(32, "17 is not below 17", f.fairs(2, 1, 17, 0), 1);
        t.due(32, "17 is below 18", f.fairs(2, 1, 18, 0), 0);
        f.force(2);
        t.due(32, "ahead of each DAY", f.fairs(1, 2, 18, 0), 1);
        t.due(32, "ahead of each DAY", f.fairs(1, 2, 17, 0), 0);
        t.due(32, "x as it was", f.count(10), 0);
        t.due(32, "thinks as it was", f.thinks(0, 0), 10);
        t.due(32, "SIDE as it was", f.count(6), 0);
        f.seed(654583775);
        f.force(0);
        t.due(32, "from another x", f.fairs(1, 1, 17, 0), 0);
        f.force(2);
        t.due(32, "from another x", f.fairs(1, 1, 18, 0), 1);
        t.due(32, "10, 60, 100", f.fairs(10, 60, 0, 0), 0);
        int[][] wrong = {{0, 1, 0, 0}, {11, 1, 0, 0}, {1, 0, 0, 0}, {1, 61, 0, 0}, {1, 1, -1, 0}, {1, 1, 101, 0},
            {1, 1, 0, -1}, {1, 1, 0, 2}};
        for (int[] w : wrong) {
            t.due(32, "wrong", f.fairs(w[0], w[1], w[2], w[3]), NONE);
        }
        t.due(32, "nobody", Checks.made("ford 1 1").fairs(10, 60, 100, 0), 0);
        t.due(32, "without a FORD", new RankFord().fairs(1, 1, 1, 0), NONE);
        f = Checks.made(THREE);
        Checks.rule(f, "go 5 if alone = 1");
        f.force(0);
        t.due(32, "on SIDE 1", f.fairs(3, 5, 0, 0), 3);
        t.due(32, "COINS of those on SIDE 1", f.fairs(3, 5, 0, 1), 27);
    }

    private static void count() {
        RankFord f = Checks.made(THREE);
        Checks.rule(f, "go 1");
        f.force(0);
        f.day();
        f.note(1, 1, 1);
        f.note(2, 1, 1);
        f.seed(9);
        f.feed(0, 0, 0, 0, 0);
        counts(33, f, 12, 1, 3, 1, 0, 1, 7, 34, 2, 1, 9, 20);
        t.due(33, "12", f.count(12), NONE);
        t.due(33, "-1", f.count(-1), NONE);
    }

    private static void images() {
        RankFord f = new RankFord();
        t.due(34, "without a FORD", f.image(3), 0);
        Checks.ford(f, THREE);
        Checks.rule(f, "go 1");
        f.day();
        f.note(1, 1, 1);
        f.seed(4);
        t.due(34, "image(0)", f.image(0), 1);
        t.due(34, "image(4)", f.image(4), NONE);
        t.due(34, "image(-1)", f.image(-1), NONE);
        t.due(34, "ACTS stay", f.count(9), 1);
        f.force(0);
        f.day();
        f.flood(2);
        f.seed(5);
        f.note(2, 2, 1);
        f.image(1);
        Checks.ford(f, "ford 3 3;person 3 3 3");
        Checks.rule(f, "go 2");
        f.day();
        f.feed(1, 1, 1, 1, 1);
        t.due(35, "back(0)", f.back(0), 1);
        counts(35, f, 12, 1, 3, 2, NONE, 1, 7, 34, 1, 0, 4, 20);
        t.due(35, "undo", f.undo(), NONE);
        t.due(35, "thinks", f.thinks(0, 0), 13);
        t.due(35, "NOTES as they were", f.ruled(0), 3);
        t.due(35, "back(1)", f.back(1), 2);
        counts(35, f, 2, 1, 3, 2, 0, 2, 7, 34, 2, 0, 5, 20);
        f.day();
        f.flood(9);
        t.due(35, "back(1) again", f.back(1), 2);
        t.due(35, "DEEP", f.count(0), 2);
        t.due(35, "never made", f.back(2), NONE);
        t.due(35, "back(4)", f.back(4), NONE);
        t.due(35, "back(-1)", f.back(-1), NONE);
        t.due(35, "back to no FORD", f.back(3), 0);
        counts(35, f, 0, 0, 0, 2, NONE, 0, 0, 0, 0, 0, 0, 20);
        t.due(35, "no FORD", f.day(), NONE);
    }

    private static void withoutFord() {
        RankFord f = new RankFord();
        t.due(7, "person", f.person(0, 0), NONE);
        t.due(8, "thinks", f.thinks(0, 0), NONE);
        t.due(9, "depth", f.depth(0, 0), NONE);
        t.due(11, "cross", f.cross(0, 0), NONE);
        t.due(12, "remark", f.remark(0, 0, 1), NONE);
        t.due(13, "pay", f.pay(0, 1, 1), NONE);
        t.due(15, "undo", f.undo(), NONE);
        t.due(16, "ahead", f.ahead(0, 0, 0), NONE);
        t.due(24, "self", f.self(0, 1), NONE);
        t.due(26, "rests", f.rests(0, 1, 1, 0), NONE);
        t.due(27, "price", f.price(0, 1), NONE);
        t.due(28, "note", f.note(0, 0, 0), -2);
        t.due(28, "note of none", f.note(NONE, 0, 0), 0);
        t.due(35, "back", f.back(0), NONE);
    }

    private static void edges() {
        t.due(13, "1", Checks.made(THREE).pay(0, 1, 1), 8);
        t.due(23, "1 or less", Checks.made("ford 2 0;person 0 0 0;person 0 0 0").fair(), 0);
        t.due(23, "1 or less", Checks.made("ford 1 0;person 0 0 0;person 0 0 0").fair(), 3);
        RankFord f = Checks.made("ford 10 0;person 0 0 0;person 60 0 0");
        t.due(21, "both CAN", f.oneRemark(0), 2);
        t.due(21, "who", f.oneRemark(1), 0);
        t.due(21, "20", f.oneRemark(2), 20);
        t.due(24, "20", f.self(0, 1), 20);
        t.due(27, "9 at most", Checks.made("ford 10 0;person 5 99 0;person 20 0 0;thinks 0 0 20").price(1, 0), 9);
        t.due(27, "0", Checks.made("ford 10 0;person 5 0 0;person 20 0 7;thinks 0 0 20").price(1, 0), 0);
        // found by search, and so by the oracle: no two of FEES rests
        f = Checks.made("ford 10 0;person 20 1 3;person 20 8 3;person 20 8 1;person 20 0 4;thinks 2 2 20");
        Checks.rule(f, "go 9 - fee if alone = 0");
        f.force(0);
        t.due(26, "none", f.rests(3, 2, 1, 0), 0);
        t.due(26, "none", f.rests(3, 2, 1, 1), -2);
        t.due(26, "none", f.rests(3, 2, 1, 2), -2);
    }

    /** By this RULE the last one goes on the first DAY, and one more on each behind it. */
    private static void dayByDay() {
        RankFord f = Checks.made("ford 0 2;person 0 1 0;person 0 2 0;person 0 3 0");
        Checks.rule(f, "go 1 if here - 1 = person and alone = 1");
        f.force(0);
        t.due(16, "2 DAYS", f.ahead(0, 2, 0), 0);
        t.due(16, "3 DAYS", f.ahead(0, 3, 0), 1);
        t.due(16, "3 DAYS", f.ahead(0, 3, 2), 12);
        t.due(17, "over", f.over(), 3);
        t.due(25, "2 DAYS", f.hired(2, 1), 2);
        t.due(32, "2 DAYS, two times", f.fairs(2, 2, 0, 0), 4);
        t.due(32, "COINS", f.fairs(2, 2, 0, 1), 10);
        f.note(1, 0, 0);
        f.note(2, 0, 1);
        guessed(f, 1, 0, 0, 1);
        t.due(10, "day", f.day(), 1);
        t.due(10, "day", f.day(), 1);
        t.due(10, "who is over", f.count(6), 6);
        t.due(17, "over", f.over(), 3);
    }

    private static void sixPeople() {
        StringBuilder text = new StringBuilder("ford 10 0");
        for (int p = 0; p < 6; p++) {
            text.append(";person 0 9 1");
        }
        for (int p = 0; p < 6; p++) {
            text.append(";thinks ").append(p).append(" ").append(p).append(" 20");
        }
        mosts(text.toString(), 6, 3, 1, 0, 3, 2, 5, 4);
        RankFord f = Checks.made(text.toString());
        t.due(19, "three", f.fewest(0), 3);
        t.due(19, "who", f.fewest(1), 0);
        t.due(19, "with whom", f.fewest(2), 1);
        f.cross(1, 0);
        t.due(19, "who", f.fewest(1), 2);
        t.due(19, "with whom", f.fewest(2), 3);
        f.cross(2, 3);
        f.remark(4, 4, 11);
        t.due(19, "none by which 4 goes", f.fewest(0), -2);
        t.due(21, "5 CAN no more either", f.oneRemark(0), 2);
        t.due(21, "who", f.oneRemark(1), 4);
        t.due(21, "number", f.oneRemark(2), 20);
        f.undo();
        t.due(20, "two", f.ring(0), 2);
        t.due(20, "0 and 1", f.ring(1), 3);
        t.due(10, "the last two", f.day(), 2);
        t.due(33, "all are over", f.count(6), 63);
        t.due(33, "COINS", f.count(7), 54);
        t.due(16, "PURSE of 5", f.ahead(5, 60, 1), 10);
    }

    private static void sixRules() {
        RankFord f = Checks.made(ONE);
        String[] rules = {"go 1 if day = 10", "go 1 if day = 20", "go 1 if day = 30", "go 1 if day = 40", "go 0",
            "go 1 if day = 60"};
        for (String each : rules) {
            Checks.rule(f, each);
        }
        guessed(f, 7, NONE, 20, 4);
        f.note(39, 0, 0);
        guessed(f, 3, 3, 40, 2);
        f.note(59, 0, 0);
        guessed(f, 2, 4, 60, 1);
        f.note(60, 0, 1);
        guessed(f, 1, 5, 0, 1);
    }

    private static void sixUnlike() {
        StringBuilder text = new StringBuilder("ford 0 0");
        for (int p = 0; p < 6; p++) {
            text.append(";person ").append(10 + p).append(" ").append(30 + p).append(" ").append(p + 1);
        }
        RankFord f = Checks.made(text.toString());
        for (int p = 0; p < 6; p++) {
            t.due(7, "HEIGHT of " + p, f.person(p, 0), 10 + p);
            t.due(7, "PURSE of " + p, f.person(p, 1), 30 + p);
            t.due(7, "FEE of " + p, f.person(p, 2), p + 1);
        }
    }

    /** A text with a FAULT, which has used up a limit, takes nothing from the next one. */
    private static void nothingLeftOfFaults() {
        String brackets = "[".repeat(10) + "1 = 1" + "]".repeat(10);
        String values = "1" + "+1".repeat(59);
        String clauses = "go 1" + ";go 1".repeat(11);
        RankFord f = Checks.made(ONE);
        t.due(5, "too deep", Checks.rule(f, "go 1 if " + "[".repeat(11)), Checks.fault(18, 2));
        t.due(5, "10 deep", Checks.rule(f, "go 1 if " + brackets), 0);
        t.due(5, "too many VALUES", Checks.rule(f, "go " + values + "+1"), Checks.fault(123, 3));
        t.due(5, "60 VALUES", Checks.rule(f, "go " + values), 1);
        t.due(5, "too many CLAUSES", Checks.rule(f, clauses + ";go 1"), Checks.fault(60, 4));
        t.due(5, "12 CLAUSES", Checks.rule(f, clauses), 2);
        t.due(4, "too many PEOPLE", Checks.ford(f, "ford 5 0" + ";person 1 1 1".repeat(7)), Checks.fault(87, 4));
        t.due(4, "nobody is told yet", Checks.ford(f, "ford 6 0;thinks 0 0 0"), Checks.fault(16, 1));
        t.due(33, "DEEP", f.count(0), 0);
        t.due(4, "one", Checks.ford(f, "ford 6 0;person 1 1 1"), 1);
    }

    private static void nothingLeftOfAsking() {
        RankFord f = Checks.made("ford 10 0;person 20 9 0;person 5 9 0;person 20 0 0;thinks 1 1 20");
        t.due(27, "1 hires 2", f.price(2, 1), 9);
        Checks.rule(f, "go 1 if person = 0 and with = 1;go 1 if person = 1");
        f.force(0);
        t.due(27, "0 has hired 1", f.price(2, 1), -2);
        f = Checks.made("ford 0 2;person 0 1 0;person 0 2 0;person 0 3 0");
        Checks.rule(f, "go 1 if here - 1 = person and alone = 1");
        Checks.rule(f, "go 1 if here - 1 = person and alone = 1 and day < 2");
        f.note(0, 0, 0);
        t.due(30, "look ahead of ruled", f.look(0), 2);
        t.due(30, "how many", f.look(1), 1);
        f = Checks.made(ONE);
        Checks.rule(f, "go day");
        f.force(0);
        t.due(16, "not on DAY 0", f.ahead(0, 1, 0), 0);
        t.due(16, "on DAY 1", f.ahead(0, 2, 0), 1);
        f = Checks.made("ford 5 0;person 5 0 0;person 0 0 0");
        f.note(1, 0, 1);
        f.image(0);
        f.note(NONE, 0, 0);
        f.note(0, 1, 0);
        f.image(1);
        f.back(0);
        t.due(35, "the NOTE of IMAGE 0", f.ruled(0), 1);
        f.back(1);
        t.due(35, "the NOTE of IMAGE 1", f.ruled(0), 1);
    }

    /** Behind 512 calls nothing is promised, but the bound that promise 10 names is kept there, too. */
    private static void lastDay() {
        RankFord f = Checks.made("ford 1 0;person 0 0 0");
        for (int i = 0; i < 999; i++) {
            f.day();
        }
        t.due(10, "DAY 999", f.count(5), 999);
        t.due(10, "day() on DAY 999", f.day(), NONE);
        t.due(10, "DAY 999", f.count(5), 999);
        f.flood(0);
        t.due(17, "DAYS that are asked go on", f.over(), 1000);
    }
}
