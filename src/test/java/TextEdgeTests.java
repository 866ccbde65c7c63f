/** Boundary cases of promises 1 to 6: the new object, the TAPE, and the texts on it. */
public final class TextEdgeTests {
    private static final int NONE = RankFord.NONE;
    private static final int LEAST = Integer.MIN_VALUE;
    private static final int GREATEST = Integer.MAX_VALUE;
    private static final String ONE = "ford 0 0;person 0 7 0";

    /** 2 ** 63, which goes round to the least number there is. */
    private static final String ROUND = "32768*32768*32768*32768*8";

    private static Edges t;

    public static void main(String[] args) {
        t = new Edges("TextEdgeTests", args);
        newObject();
        feed();
        end();
        fordBytesAndClauses();
        fordNumbers();
        fordPeople();
        fordThinks();
        fordInPlace();
        ruleClauses();
        numbers();
        words();
        blanks();
        nested();
        pieces();
        joined();
        divided();
        roundTheBits();
        faults();
        faultsOfOnePlace();
        sixRules();
        force();
        t.finish(1, 6);
    }

    private static void ford(String text, int want) {
        t.due("ford of '" + text + "'", Checks.ford(new RankFord(), text), want);
    }

    private static void fordFault(String text, int place, int why) {
        ford(text, Checks.fault(place, why));
    }

    private static void rule(String text, int want) {
        t.due("rule of '" + text + "'", Checks.rule(new RankFord(), text), want);
    }

    private static void ruleFault(String text, int place, int why) {
        rule(text, Checks.fault(place, why));
    }

    /** Whether the only PERSON goes by a RULE. */
    private static void goes(String rule, boolean so) {
        RankFord f = Checks.made(ONE);
        t.due("rule of '" + rule + "'", Checks.rule(f, rule), 0);
        f.force(0);
        t.due("day() by '" + rule + "'", f.day(), so ? 1 : 0);
    }

    private static void holds(String test) {
        goes("go 1 if " + test, true);
        goes("go 1 if not " + test, false);
    }

    private static void newObject() {
        RankFord f = new RankFord();
        t.says(1, "No FORD, no RULES, none IN FORCE.");
        int[] counts = {0, 0, 0, 0, NONE, 0, 0, 0, 0, 0, 0, 0};
        for (int what = 0; what < counts.length; what++) {
            t.due("count(" + what + ")", f.count(what), counts[what]);
        }
        t.due("force(0)", f.force(0), -2);
        t.due("force(NONE)", f.force(NONE), NONE);
        t.due("undo()", f.undo(), NONE);
        for (int k = 0; k <= 3; k++) {
            t.due("back(" + k + ")", f.back(k), NONE);
        }
        t.due("day()", f.day(), NONE);
        t.due("person(0, 0)", f.person(0, 0), NONE);
        t.says(1, "x (0 to 2147483647; 0 at first)");
        t.due("seed(1)", f.seed(1), 0);
        t.says(1, "`NONE = -1`: None.");
        t.due("NONE", RankFord.NONE, -1);
    }

    private static void feed() {
        t.says(2, "Twenty bytes come behind the TAPE, of each number the highest first: how many it has");
        RankFord f = new RankFord();
        t.due("feed to an empty TAPE", f.feed(LEAST, GREATEST, -1, 0, 1), 20);
        f.end(0);
        t.due("feed", f.feed(0x666f7264, 0x20352034, 0x3b706572, 0x736f6e20, 0x31203220), 20);
        f.end(19);
        t.due("feed behind 19", f.feed(0x20392020, 0x20202020, 0x20202020, 0x20202020, 0x20202020), 39);
        t.due("ford()", f.ford(), 1);
        t.due("DEEP", f.count(0), 5);
        t.due("FEE", f.person(0, 2), 9);
        f.feed(0x666f7264, 0x20352034, -1, -1, -1);
        t.due("the first byte of -1", f.ford(), Checks.fault(8, 0));
        f.feed(0x666f7264, 0x20352080, 0, 0, 0);
        t.due("the lowest byte, 128", f.ford(), Checks.fault(7, 0));
        t.says(2, "NONE, and none comes, if it would have more than 400.");
        for (int i = 1; i <= 20; i++) {
            t.due("feed", f.feed(0, 0, 0, 0, 0), 20 * i);
        }
        t.due("feed to 400", f.feed(0, 0, 0, 0, 0), NONE);
        f.end(381);
        t.due("feed to 381", f.feed(0, 0, 0, 0, 0), NONE);
        t.due("count(11)", f.count(11), 381);
        f.end(380);
        t.due("feed to 380", f.feed(0, 0, 0, 0, 0), 400);
        t.refused("feed to 400", States::full, x -> x.feed(1, 2, 3, 4, 5), NONE);
        t.refused("feed to 381", TextEdgeTests::withTapeOf381, x -> x.feed(1, 2, 3, 4, 5), NONE);
    }

    private static RankFord withTapeOf381() {
        RankFord f = States.full();
        f.end(381);
        return f;
    }

    private static void end() {
        t.says(3, "The TAPE has its first n bytes alone: n");
        RankFord f = new RankFord();
        t.due("end(0) of an empty TAPE", f.end(0), 0);
        Checks.put(f, "ford 1 2;x");
        t.due("end(10) of 10", f.end(10), 10);
        t.due("end(8)", f.end(8), 8);
        t.due("the first 8", f.ford(), 0);
        Checks.put(f, "ford 1 2");
        t.due("end(0)", f.end(0), 0);
        t.due("an empty TAPE", f.ford(), Checks.fault(0, 0));
        Checks.put(f, States.fullText());
        t.due("end(400) of 400", f.end(400), 400);
        t.due("end(399)", f.end(399), 399);
        t.says(3, "NONE, and nothing happens, if it has not so many");
        t.due("end(400) of 399", f.end(400), NONE);
        t.refused("end(1) of none", RankFord::new, x -> x.end(1), NONE);
        t.refused("end(21) of 20", States::some, x -> x.end(21), NONE);
        t.refused("end(401) of 400", States::full, x -> x.end(401), NONE);
        t.refused("end of the greatest", States::full, x -> x.end(GREATEST), NONE);
        t.says(3, "or n is below 0.");
        t.refused("end(-1) of none", RankFord::new, x -> x.end(-1), NONE);
        t.refused("end(-1)", States::some, x -> x.end(-1), NONE);
        t.refused("end of the least", States::full, x -> x.end(LEAST), NONE);
    }

    /** A CLAUSE behind the first has 11 bytes and its sign: 400 bytes have 33, and 40 can't be told. */
    private static void fordBytesAndClauses() {
        t.says(4, "A FORD is a text of at most 400 bytes: CLAUSE { ; CLAUSE }, 40 at most");
        RankFord f = new RankFord();
        t.due("400 bytes, 33 CLAUSES", Checks.ford(f, States.fullText()), 6);
        t.due("the last CLAUSE", f.thinks(5, 5), 7);
        t.due("the TAPE behind it", f.count(11), 0);
        t.due("one CLAUSE", Checks.ford(f, "ford 0 0"), 0);
        t.due("no byte", Checks.ford(f, ""), Checks.fault(0, 0));
        t.due("400 bytes, the last too many", Checks.ford(f, "ford 0 0" + " ".repeat(391) + "0"), Checks.fault(399, 0));
        t.due("400 bytes, one too few", Checks.ford(f, "ford 0 0" + " ".repeat(391) + ";"), Checks.fault(400, 0));
        fordFault("ford 0 0;", 9, 0);
        fordFault(";ford 0 0", 0, 0);
        fordFault("ford 0 0;;person 0 0 0", 9, 0);
        t.says(4, "once, the first CLAUSE");
        fordFault("ford 0 0;ford 0 0", 9, 4);
        fordFault("ford 0 0;person 0 0 0;ford 0 0", 22, 4);
        fordFault("person 0 0 0;ford 0 0", 0, 4);
        fordFault("thinks 0 0 0", 0, 4);
    }

    private static void fordNumbers() {
        t.says(4, "ford NUMBER NUMBER (DEEP 0 to 60; PRIDE 0 to 5;");
        counted("ford 0 0", 0, 0);
        counted("ford 60 0", 60, 0);
        counted("ford 00060 00005", 60, 5);
        fordFault("ford 61 0", 5, 1);
        fordFault("ford 99999 0", 5, 1);
        fordFault("ford 0 6", 7, 1);
        fordFault("ford 0 99999", 7, 1);
        fordFault("ford -1 0", 5, 0);
        fordFault("ford 0 -1", 7, 0);
        fordFault("ford", 4, 0);
        fordFault("ford 0", 6, 0);
        fordFault("ford 0 0 0", 9, 0);
        t.says(4, "person NUMBER NUMBER NUMBER (HEIGHT 0 to 60; PURSE 0 to 99; FEE 0 to 9)");
        person("0 0 0", 0, 0, 0);
        person("60 0 0", 60, 0, 0);
        person("0 99 0", 0, 99, 0);
        person("0 0 9", 0, 0, 9);
        fordFault("ford 0 0;person 61 0 0", 16, 1);
        fordFault("ford 0 0;person 0 100 0", 18, 1);
        fordFault("ford 0 0;person 0 0 10", 20, 1);
        fordFault("ford 0 0;person 0 0", 19, 0);
        fordFault("ford 0 0;person 0 0 0 0", 22, 0);
        fordFault("ford 0 0;person 0 0 -1", 20, 0);
    }

    private static void counted(String text, int deep, int pride) {
        RankFord f = Checks.made(text);
        t.due("DEEP of '" + text + "'", f.count(0), deep);
        t.due("PRIDE of '" + text + "'", f.count(1), pride);
    }

    private static void person(String numbers, int height, int purse, int fee) {
        RankFord f = new RankFord();
        t.due("ford with person " + numbers, Checks.ford(f, "ford 0 0;person " + numbers), 1);
        t.due("HEIGHT of " + numbers, f.person(0, 0), height);
        t.due("PURSE of " + numbers, f.person(0, 1), purse);
        t.due("FEE of " + numbers, f.person(0, 2), fee);
    }

    private static void fordPeople() {
        t.says(4, "PEOPLE 0 to 5, in the order told.");
        ford("ford0 0", 0);
        ford("ford0 0;person0 0 0", 1);
        StringBuilder six = new StringBuilder("ford0 0");
        for (int p = 0; p < 6; p++) {
            six.append(";person").append(p).append(" 0 0");
        }
        RankFord f = Checks.made(six.toString());
        for (int p = 0; p < 6; p++) {
            t.due("HEIGHT of " + p, f.person(p, 0), p);
        }
        t.due("the seventh", f.person(6, 0), NONE);
        t.says(4, "a seventh PERSON (at its first byte)");
        ford(six.toString(), 6);
        fordFault(six + ";person6 0 0", 80, 4);
        fordFault(six + ";  person", 82, 4);
        fordFault(six + ";thinks5 5 1; person6 0 0", 93, 4);
        t.says(4, "It is DAY 0; all are on SIDE 0.");
        f.day();
        f.day();
        t.due("DAY ahead of it", f.count(5), 2);
        Checks.ford(f, six.toString());
        t.due("DAY", f.count(5), 0);
        t.due("who is on SIDE 1", f.count(6), 0);
        for (int p = 0; p < 6; p++) {
            t.due("SIDE of " + p, f.person(p, 3), 0);
        }
    }

    private static void fordThinks() {
        String two = "ford 0 0;person 0 0 0;person 0 0 0;thinks ";
        t.says(4, "two PEOPLE that were told, the same one twice, too");
        ford(two + "1 1 3", 2);
        ford(two + "0 1 3", 2);
        fordFault(two + "2 1 3", 42, 1);
        fordFault(two + "1 2 3", 44, 1);
        fordFault("ford 0 0;thinks 0 0 3", 16, 1);
        fordFault("ford 0 0;person 0 0 0;thinks 0 1 3;person 0 0 0", 31, 1);
        t.says(4, "what the first THINKS of the second, 0 to 20");
        ford(two + "0 1 0", 2);
        ford(two + "0 1 20", 2);
        fordFault(two + "0 1 21", 46, 1);
        fordFault(two + "0 1 -1", 46, 0);
        RankFord f = Checks.made(two + "0 1 20;thinks 1 0 0");
        t.due("thinks(0, 1)", f.thinks(0, 1), 20);
        t.due("thinks(1, 0)", f.thinks(1, 0), 0);
        t.says(4, "of the same two in this order the last told; 10 without");
        f = Checks.made(two + "0 1 4;thinks 0 1 5;thinks 1 0 6;thinks 1 1 7;thinks 1 1 0");
        t.due("thinks(0, 1)", f.thinks(0, 1), 5);
        t.due("thinks(1, 0)", f.thinks(1, 0), 6);
        t.due("thinks(1, 1)", f.thinks(1, 1), 0);
        t.due("thinks(0, 0)", f.thinks(0, 0), 10);
    }

    private static void fordInPlace() {
        t.says(4, "is the FORD in place of the one there was (no NOTES, nothing to be UNDONE; the RULE IN FORCE and x stay)");
        RankFord f = States.full();
        t.due("ford()", f.ford(), 6);
        int[] counts = {0, 0, 6, 6, 5, 0, 0, 0, 0, 0, GREATEST, 0};
        for (int what = 0; what < counts.length; what++) {
            t.due("count(" + what + ")", f.count(what), counts[what]);
        }
        t.due("undo()", f.undo(), NONE);
        t.due("IMAGES stay", f.back(3), 0);
        t.due("DEEP of IMAGE 3", f.count(0), 6);
        t.due("fewer PEOPLE", Checks.ford(f, "ford 1 1;person 2 3 4"), 1);
        t.due("person(1, 0)", f.person(1, 0), NONE);
        t.due("what nobody told", f.thinks(0, 0), 10);
        t.due("nobody", Checks.ford(f, "ford 1 1"), 0);
        t.due("person(0, 0)", f.person(0, 0), NONE);
        t.says(4, "The TAPE, which is empty then");
        Checks.ford(f, "ford 1 1");
        t.due("the TAPE behind a FORD", f.count(11), 0);
        Checks.ford(f, "ford 1 6");
        t.due("the TAPE behind a FAULT", f.count(11), 0);
        Checks.put(f, "ford 1 1" + " ".repeat(392));
        f.ford();
        t.due("the TAPE behind 400 bytes", f.feed(0, 0, 0, 0, 0), 20);
        t.says(4, "-2 - its FAULT, and all stays.");
        String[] wrong = {"", "ford 1", "ford 1 1;person 1 1 1;person 1 1 10", "ford 1 1;thinks 0 0 0",
            "ford 1 1;person 5 5 5;ford 1 1"};
        int[] want = {Checks.fault(0, 0), Checks.fault(6, 0), Checks.fault(33, 1), Checks.fault(16, 1), Checks.fault(22, 4)};
        for (int i = 0; i < wrong.length; i++) {
            RankFord other = States.some();
            t.due("ford of '" + wrong[i] + "'", Checks.ford(other, wrong[i]), want[i]);
            RankFord twin = States.some();
            twin.end(0);
            t.sameAsTwin("ford of '" + wrong[i] + "'", other, twin);
        }
        RankFord none = States.fordless();
        t.due("without a FORD", Checks.ford(none, "ford 9 9"), Checks.fault(7, 1));
        RankFord twin = States.fordless();
        twin.end(0);
        t.sameAsTwin("ford of 'ford 9 9'", none, twin);
    }

    private static void ruleClauses() {
        t.says(5, "RULES 0 to 5: texts likewise, 12 CLAUSES at most");
        rule("go 1", 0);
        rule("go 1" + ";go 1".repeat(11), 0);
        ruleFault("go 1" + ";go 1".repeat(12), 60, 4);
        ruleFault("go 1" + "; go 1".repeat(12), 4 + 11 * 6 + 2, 4);
        ruleFault("", 0, 0);
        ruleFault("go 1;", 5, 0);
        rule("go 1" + " ".repeat(396), 0);
        ruleFault("go 1" + " ".repeat(395) + ";", 400, 0);
        RankFord f = Checks.made(ONE);
        t.due("12 CLAUSES", Checks.rule(f, "go 0 if 1 = 2" + ";go 0 if 1 = 2".repeat(10) + ";go 1"), 0);
        f.force(0);
        t.due("the last of 12", f.day(), 1);
    }

    private static void numbers() {
        t.says(5, "NUMBER (1 to 5 digits, as far as digits go on)");
        holds("0 < 1");
        holds("99999 + 1 = 50000 * 2");
        holds("00009 = 9");
        ruleFault("go 100000", 3, 1);
        ruleFault("go 000000", 3, 1);
        ruleFault("go 1234567890123456789012345", 3, 1);
        ruleFault("go 1 if 2 = 000001", 12, 1);
        ruleFault("go 1 2", 5, 0);
        fordFault("ford 000000 0", 5, 1);
        fordFault("ford 60000 0", 5, 1);
        fordFault("ford 0 0;person 000001 0 0", 16, 1);
    }

    private static void words() {
        t.says(5, "WORDS (small letters, as far as these go on)");
        ruleFault("goes 1", 0, 0);
        ruleFault("g", 0, 0);
        ruleFault("GO 1", 0, 0);
        ruleFault("go days", 3, 0);
        ruleFault("go da", 3, 0);
        ruleFault("go dayday", 3, 0);
        ruleFault("go d y", 3, 0);
        ruleFault("go 1 iff 1 = 1", 5, 0);
        ruleFault("go 1 if nota = 1", 8, 0);
        ruleFault("go a", 3, 0);
        ruleFault("go z", 3, 0);
        ruleFault("go `", 3, 0);
        ruleFault("go {", 3, 0);
        ruleFault("go :", 3, 0);
        ruleFault("go 1 if 1=1 orr 1=1", 12, 0);
        rule("go1if1=1and2=2or3=3;go2", 0);
        fordFault("fords 0 0", 0, 0);
        fordFault("for 0 0", 0, 0);
        fordFault("ford 0 0;persons 0 0 0", 9, 0);
        t.says(5, "alone (1 if so, else 0)");
        holds("alone = 1");
        byTwo("go 1 if person = 0 and alone = 0", 3);
        byTwo("go 1 if person = 0 and alone * 2 = 2", 1);
        t.says(5, "depth (for the PERSON), height, purse");
        byTwo("go 1 if person = 0 and with = 0 and depth = 5", 1);
        byTwo("go 1 if person = 0 and with = 1 and depth = 0", 3);
        byTwo("go 1 if person = 1 and with = 1 and depth = 5", 2);
        byTwo("go 1 if alone = 1 and height = 60", 1);
        byTwo("go 1 if alone = 1 and height = 0", 0);
        byTwo("go 1 if alone = 1 and purse = 9", 1);
        byTwo("go 1 if alone = 1 and purse = 0", 2);
        t.says(5, "self (what they THINK of themselves), here (how many are on SIDE 0), over (on SIDE 1), day");
        byTwo("go 1 if person = 0 and with = 1 and self = 20", 3);
        byTwo("go 1 if person = 0 and with = 0 and self = 20", 1);
        byTwo("go 1 if alone = 1 and here = 2 and over = 0", 1);
        byTwo("go 1 if alone = 1 and here > 0 and over = 2 - here", 3);
        byTwo("go 1 if here = 0 or over = 2", 0);
        byTwo("go 1 if alone = 1 and day = 0", 3);
        byTwo("go 1 if day > 0", 0);
        t.says(5, "fee (of the other one; 0 alone)");
        byTwo("go 1 if person = 0 and with = 0 and fee = 0", 1);
        byTwo("go 1 if person = 0 and with = 0 and fee = 4", 0);
        byTwo("go 1 if person = 0 and with = 1 and fee = 6", 3);
        byTwo("go 1 if person = 1 and with = 1 and fee = 0", 2);
        t.says(5, "thinks (of the other one, or of themselves)");
        byTwo("go 1 if person = 0 and with = 0 and thinks = 20", 1);
        byTwo("go 1 if person = 0 and with = 1 and thinks = 0", 3);
    }

    /** Who goes on a DAY of two, who both CAN alone and with each other. */
    private static void byTwo(String rule, int over) {
        RankFord f = Checks.made("ford 5 0;person 60 9 4;person 59 0 6;thinks 0 0 20;thinks 0 1 0");
        Checks.rule(f, rule);
        f.force(0);
        f.day();
        t.due("who is over by '" + rule + "'", f.count(6), over);
    }

    private static void blanks() {
        t.says(5, "Blanks (32) stand between as one likes.");
        rule("go1", 0);
        rule("   go    1   ", 0);
        rule("go 1 if[not[1<=1]]", 0);
        rule("go 1 if [ not [ 1 <= 1 ] ] ", 0);
        ruleFault("g o 1", 0, 0);
        ruleFault("go\t1", 2, 0);
        ruleFault("go\n1", 2, 0);
        ruleFault("go\u00a01", 2, 0);
        ruleFault("go\0001", 2, 0);
        ruleFault("go 1\u001f", 4, 0);
        ruleFault("go 1!", 4, 0);
        ruleFault("go 1 if 1 < = 1", 12, 0);
        ruleFault("go 1 if 1 > = 1", 12, 0);
        ford("ford0 0;person0 0 0", 1);
        ford("  ford  0  0  ;  person  0  0  0  ", 1);
        fordFault("fo rd 0 0", 0, 0);
        fordFault("ford\t0 0", 4, 0);
        fordFault("ford 00", 7, 0);
    }

    private static void nested() {
        t.says(5, "[ and not lie within one another 10 deep at most");
        holds("[".repeat(9) + "1=1" + "]".repeat(9));
        rule("go 1 if " + "[".repeat(10) + "1=1" + "]".repeat(10), 0);
        ruleFault("go 1 if " + "[".repeat(11) + "1=1" + "]".repeat(11), 18, 2);
        rule("go 1 if " + "not ".repeat(10) + "1=1", 0);
        ruleFault("go 1 if " + "not ".repeat(11) + "1=1", 48, 2);
        rule("go 1 if " + "not[".repeat(5) + "1=1" + "]".repeat(5), 0);
        ruleFault("go 1 if " + "not[".repeat(5) + "not 1=1" + "]".repeat(5), 28, 2);
        ruleFault("go 1 if " + "not[".repeat(5) + "[1=1]" + "]".repeat(5), 28, 2);
        goes("go 1 if " + "not ".repeat(10) + "1=1", true);
        goes("go 1 if " + "not ".repeat(9) + "1=1", false);
        goes("go 1 if " + "not[".repeat(5) + "1=1" + "]".repeat(5), false);
        // beside one another they may be more
        rule("go 1 if not 1=1" + " and not 1=1".repeat(14), 0);
        rule("go 1 if [1=1]" + "or[1=1]".repeat(14), 0);
        rule("go 1 if " + "[".repeat(10) + "1=1" + "]".repeat(10) + "and " + "not ".repeat(10) + "1=1", 0);
        rule("go 1 if " + "[".repeat(9) + "not 1=1 and not 1=1" + "]".repeat(9), 0);
        rule("go 1 if " + "[".repeat(9) + "not 1=1 or not 1=1" + "]".repeat(9) + "or " + "[".repeat(10) + "1=1" + "]".repeat(10), 0);
        rule("go 1 if " + "not ".repeat(10) + "1=1;go 2 if " + "[".repeat(10) + "1=1" + "]".repeat(10), 0);
        t.says(5, "2 too deep (at the sign that opens, or the word not)");
        ruleFault("go 1 if " + "[ ".repeat(10) + "  [", 30, 2);
        ruleFault("go 1 if " + "[ ".repeat(10) + "  not", 30, 2);
        ruleFault("go 1 if " + "[".repeat(10) + "1=1 and 1=1 or [", 33, 2);
    }

    private static void pieces() {
        String sixty = "1" + "+1".repeat(59);
        t.says(5, "at most 60 VALUES (of SUMS) and FACTS made of a SIGN, together");
        rule("go " + sixty, 0);
        goes("go " + sixty, true);
        ruleFault("go " + sixty + "+1", 123, 3);
        ruleFault("go " + sixty + "+day", 123, 3);
        ruleFault("go " + sixty + ";go 1", 126, 3);
        // 19 facts of three pieces, and three values
        rule("go 1+1+1 if 1=1" + " or 1=1".repeat(18), 0);
        ruleFault("go 1+1+1+1 if 1=1" + " or 1=1".repeat(18), 17 + 7 * 17 + 6, 3);
        ruleFault("go 1+1+1 if 1=1" + " or 1=1".repeat(19), 15 + 7 * 18 + 4, 3);
        ruleFault("go 1+1 if 1=1" + " or 1=1".repeat(18) + ";go 1;go 1", 13 + 7 * 18 + 9, 3);
        rule("go 1+1 if 1=1" + " or 1=1".repeat(18) + ";go 1", 0);
        // not and [ are none of these
        rule("go 1+1+1 if not[1=1]" + "or not[1=1]".repeat(18), 0);
        t.says(5, "3 one VALUE or FACT too many (at its first byte; of a FACT at its SIGN)");
        ruleFault("go " + sixty + "  +   purse", 128, 3);
        ruleFault("go " + sixty + " if day", 126, 3);
        ruleFault("go 1" + "+1".repeat(58) + " if day = 1", 128, 3);
        ruleFault("go 1" + "+1".repeat(58) + " if day >= 1", 128, 3);
        ruleFault("go 1" + "+1".repeat(57) + " if day <= 1", 129, 3);
        rule("go 1" + "+1".repeat(56) + " if day <= 1", 0);
    }

    private static void divided() {
        t.says(5, "/ is towards 0, % its rest, both 0 by 0");
        holds("7 / 2 = 3");
        holds("1 / 2 = 0");
        holds("2 / 2 = 1");
        holds("7 % 2 = 1");
        holds("6 % 2 = 0");
        holds("1 % 2 = 1");
        holds(ROUND + " / 3 * 3 = " + ROUND + " + 2");
        holds(ROUND + " % 3 = 0 - 2");
        holds("5 / 0 = 0");
        holds("0 / 0 = 0");
        holds("5 % 0 = 0");
        holds("0 % 0 = 0");
        holds(ROUND + " / 0 = 0");
        holds(ROUND + " % day = 0");
        goes("go 5 / 0", false);
        goes("go 5 / 0 + 1", true);
        goes("go 5 % 0", false);
    }

    private static void compared(String test, boolean so) {
        goes("go 1 if " + test, so);
        goes("go 1 if not " + test, !so);
        goes("go 1 if " + test + " and 1 = 1", so);
        goes("go 1 if " + test + " or 1 = 2", so);
        goes("go 1 if " + test + " and 1 = 2", false);
        goes("go 1 if " + test + " or 1 = 1", true);
    }

    private static void joined() {
        t.says(5, "TEST: PART { or PART }. PART: FACT { and FACT }. FACT: not FACT | [ TEST ] (these brackets are signs)");
        holds("[1 = 1 or 1 = 1 and 1 = 2]");
        holds("[1 = 2 and 1 = 1 or 1 = 1]");
        holds("[not 1 = 2 or 1 = 1]");
        goes("go 1 if [1 = 1 or 1 = 1] and 1 = 2", false);
        goes("go 1 if not 1 = 2 and 1 = 2", false);
        goes("go 1 if not 1 = 1 or 1 = 1", true);
        goes("go 1 if not [1 = 1 or 1 = 1]", false);
        ruleFault("go 1 if [1 = 1] + 1", 16, 0);
        ruleFault("go 1 if [1 = 1] = 1", 16, 0);
        ruleFault("go 1 if [1 + 1] = 2", 14, 0);
        ruleFault("go 1 if [1 = 1] [1 = 1]", 16, 0);
        ruleFault("go 1 if 1 = [1]", 12, 0);
        t.says(5, "SUM: TERM { (+ or -) TERM }. TERM: VALUE { (* or / or %) VALUE }.");
        holds("2 + 3 * 4 = 14");
        holds("2 * 3 + 4 = 10");
        holds("10 - 4 - 3 = 3");
        holds("20 / 2 / 5 = 2");
        holds("20 - 7 % 4 * 2 = 14");
    }

    private static void roundTheBits() {
        t.says(5, "all goes round in 64 bits");
        goes("go 65536 * 65536", true);
        goes("go 65536 * 32768", true);
        goes("go " + ROUND, false);
        goes("go " + ROUND + " - 1", true);
        goes("go " + ROUND + " - 1 + 1", false);
        goes("go " + ROUND + " * 2", false);
        goes("go " + ROUND + " * 2 + 1", true);
        goes("go 0 - " + ROUND, false);
        holds(ROUND + " < 0");
        holds(ROUND + " - 1 > " + ROUND);
        holds(ROUND + " + " + ROUND + " = 0");
        holds("0 - " + ROUND + " = " + ROUND);
        t.says(5, "SIGN one of < <= = >= >");
        for (int a = 4; a <= 6; a++) {
            compared(a + " < 5", a < 5);
            compared(a + " <= 5", a <= 5);
            compared(a + " = 5", a == 5);
            compared(a + " >= 5", a >= 5);
            compared(a + " > 5", a > 5);
        }
        ruleFault("go 1 if 1 => 1", 11, 0);
        ruleFault("go 1 if 1 =< 1", 11, 0);
        ruleFault("go 1 if 1 <> 1", 11, 0);
        ruleFault("go 1 if 1 == 1", 11, 0);
        ruleFault("go 1 if 1 1", 10, 0);
    }

    /** Their numbers are written out here, each once. */
    private static void faults() {
        t.says(4, "FAULTS, the first along the text, 1 + 8 * its place and");
        ford("", -3);
        ford("x", -3);
        ford("ford 61 0", -44);
        ford("ford 61 6", -44);
        ford("ford 60 6", -68);
        ford("person 0 0 0", -7);
        ford("ford x 61;ford", -43);
        rule("", -3);
        rule("go 100000", -28);
        rule("go 1 if " + "not ".repeat(11) + "x", -389);
        rule("go 1" + "+1".repeat(60), -990);
        rule("go 1" + ";go 1".repeat(12), -487);
        rule("go 1" + " ".repeat(395) + "1", -3195);
        rule("go 1" + " ".repeat(395) + "+", -3203);
        t.says(4, "0 a byte or WORD that can't stand there, or the end (behind the last byte)");
        fordFault("ford 0 0,", 8, 0);
        fordFault("ford 0 go", 7, 0);
        fordFault("ford 0 0 person 0 0 0", 9, 0);
        fordFault("ford 0 ", 7, 0);
        fordFault("   ", 3, 0);
        fordFault("ford 0 0\u00ff", 8, 0);
        fordFault("ford 0 0\0", 8, 0);
        ruleFault("go", 2, 0);
        ruleFault("go   ", 5, 0);
        ruleFault("go 1 if [1 = 1", 14, 0);
        ruleFault("go 1 if [1 = 1;go 1", 14, 0);
        ruleFault("go 1 if 1 = 1]", 13, 0);
        ruleFault("go 1 if []", 9, 0);
        ruleFault("go 1 if [1]", 10, 0);
        ruleFault("go [1]", 3, 0);
        ruleFault("go 1]", 4, 0);
        ruleFault("go 1 = 1", 5, 0);
        ruleFault("go 1 if not", 11, 0);
        ruleFault("go 1 if 1 = 1 and", 17, 0);
        ruleFault("go 1 if 1 = 1 or ;", 17, 0);
        ruleFault("go 1 + + 1", 7, 0);
        ruleFault("go 1 if 1 = 1 not 1 = 1", 14, 0);
        ruleFault("person 0 0 0", 0, 0);
        t.says(4, "1 a NUMBER of more digits, or not as told");
        fordFault("ford  000060 0", 6, 1);
        fordFault("ford 60  000000", 9, 1);
        fordFault("ford 60 00006", 8, 1);
        fordFault("ford 0 0;person 0 0 00010", 20, 1);
        t.says(4, "4 one CLAUSE too many, a second ford, another CLAUSE ahead of it, a seventh PERSON (at its first byte).");
        fordFault("ford 0 0;  ford 0 0", 11, 4);
        fordFault("ford 0 0;ford", 9, 4);
        fordFault("  person 0 0 0", 2, 4);
        fordFault(" thinks", 1, 4);
        fordFault("ford0 0" + ";person0 0 0".repeat(7), 80, 4);
        ruleFault("go1" + ";go1".repeat(11) + ";  go", 50, 4);
    }

    private static void faultsOfOnePlace() {
        String sixty = "1" + "+1".repeat(59);
        String twelve = "go1" + ";go1".repeat(11);
        t.says(4, "Of one place the least.");
        ruleFault(twelve + ";gox", 48, 0);
        ruleFault(twelve + ";", 48, 0);
        ruleFault(twelve + ";;go1", 48, 0);
        ruleFault("go 1 000001", 5, 0);
        ruleFault("000001", 0, 0);
        ruleFault("go 1 if 1 = 1 000001", 14, 0);
        ruleFault("go 1 if " + "[".repeat(10) + "1[", 19, 0);
        ruleFault("go 1 if " + "[".repeat(10) + "1 not", 20, 0);
        ruleFault("go 1 if " + "[".repeat(10) + "1=1[", 21, 0);
        ruleFault("go " + sixty + "+x", 123, 0);
        ruleFault("go " + sixty + "+", 123, 0);
        ruleFault("go " + sixty + " 1", 123, 0);
        ruleFault("go " + sixty + " < 1", 123, 0);
        ruleFault("go 1" + "+1".repeat(56) + " if 1=1=1", 4 + 112 + 7, 0);
        ruleFault("go " + sixty + "+100000", 123, 1);
        fordFault("ford 0 0 000000", 9, 0);
        fordFault("ford 0 0;000000", 9, 0);
        fordFault("ford0 0" + ";person0 0 0".repeat(6) + ";persons", 80, 0);
        fordFault("ford0 0" + ";person0 0 0".repeat(6) + ";", 80, 0);
        fordFault("ford 0 0;fords 0 0", 9, 0);
    }

    private static RankFord sixWith(String text) {
        RankFord f = States.full();
        Checks.put(f, text);
        return f;
    }

    private static void sixRules() {
        t.says(5, "The TAPE, which is empty then, is a RULE: its number");
        RankFord f = new RankFord();
        for (int i = 0; i < 6; i++) {
            t.due("a wrong one", Checks.rule(f, "go"), Checks.fault(2, 0));
            t.due("the TAPE behind it", f.count(11), 0);
            t.due("RULES", f.count(3), i);
            t.due("rule " + i, Checks.rule(f, "go 1"), i);
            t.due("the TAPE behind it", f.count(11), 0);
            t.due("RULES", f.count(3), i + 1);
        }
        t.says(5, "-2 - its FAULT");
        f = States.some();
        t.due("go 1 +", Checks.rule(f, "go 1 +"), Checks.fault(6, 0));
        RankFord twin = States.some();
        twin.end(0);
        t.sameAsTwin("rule of 'go 1 +'", f, twin);
        f = Checks.made(ONE);
        String[] full = {"[".repeat(10) + "1=1" + "]".repeat(10), "1" + "+1".repeat(59), "1" + ";go 1".repeat(11)};
        t.due("a FAULT too deep", Checks.rule(f, "go 1 if " + "[".repeat(11)), Checks.fault(18, 2));
        t.due("10 deep behind it", Checks.rule(f, "go 1 if " + full[0]), 0);
        t.due("a FAULT of too many VALUES", Checks.rule(f, "go " + full[1] + "+1"), Checks.fault(123, 3));
        t.due("60 behind it", Checks.rule(f, "go " + full[1]), 1);
        t.due("a FAULT of too many CLAUSES", Checks.rule(f, "go " + full[2] + ";go 1"), Checks.fault(60, 4));
        t.due("12 behind it", Checks.rule(f, "go " + full[2]), 2);
        t.due("a FAULT within [", Checks.rule(f, "go 1 if 1=2 and [1=1"), Checks.fault(20, 0));
        t.due("no [ is left of it", Checks.rule(f, "go 1 if 1=1"), 3);
        f.force(3);
        t.due("and nothing else", f.day(), 1);
        f.undo();
        t.due("a FAULT behind not", Checks.rule(f, "go 1 if not"), Checks.fault(11, 0));
        t.due("no not is left of it", Checks.rule(f, "go 1"), 4);
        f.force(4);
        t.due("and nothing else", f.day(), 1);
        f = States.fordless();
        t.due("nothing", Checks.rule(f, ""), Checks.fault(0, 0));
        twin = States.fordless();
        twin.end(0);
        t.sameAsTwin("rule of nothing", f, twin);
        t.says(5, "NONE, and nothing happens: there are 6.");
        t.refused("rule() of a FORD", States::full, RankFord::rule, NONE);
        t.refused("rule() of a RULE", () -> sixWith("go 1"), RankFord::rule, NONE);
        t.refused("rule() of a wrong text", () -> sixWith("go"), RankFord::rule, NONE);
        t.refused("rule() of nothing", () -> sixWith(""), RankFord::rule, NONE);
    }

    private static void force() {
        t.says(6, "A RULE is IN FORCE (NONE: none): which was");
        RankFord f = new RankFord();
        t.due("force(NONE) without RULES", f.force(NONE), NONE);
        for (int i = 0; i < 6; i++) {
            Checks.rule(f, "go 1");
        }
        t.due("force(0)", f.force(0), NONE);
        t.due("force(0) again", f.force(0), 0);
        t.due("force(5)", f.force(5), 0);
        t.due("count(4)", f.count(4), 5);
        t.due("force(NONE)", f.force(NONE), 5);
        t.due("count(4)", f.count(4), NONE);
        t.says(6, "-2, and nothing happens, if there is none such.");
        t.refused("force(0) without RULES", RankFord::new, x -> x.force(0), -2);
        t.refused("force(1) of 1", States::fordless, x -> x.force(1), -2);
        t.refused("force(2) of 2", States::some, x -> x.force(2), -2);
        t.refused("force(6) of 6", States::full, x -> x.force(6), -2);
        t.refused("force(-2)", States::some, x -> x.force(-2), -2);
        t.refused("force of the least", States::full, x -> x.force(LEAST), -2);
        t.refused("force of the greatest", States::full, x -> x.force(GREATEST), -2);
    }
}
