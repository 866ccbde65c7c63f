import java.util.function.ToIntFunction;

/** Boundary cases of promises 28 to 35: NOTES and what they tell, FAIRS drawn, counts and IMAGES. */
public final class TellEdgeTests {
    private static final int NONE = RankFord.NONE;
    private static final int LEAST = Integer.MIN_VALUE;
    private static final int GREATEST = Integer.MAX_VALUE;
    private static final String ONE = "ford 0 0;person 0 7 0";
    private static final String SIX = "ford 0 0" + ";person 0 99 0".repeat(6);

    private static Edges t;

    public static void main(String[] args) {
        t = new Edges("TellEdgeTests", args);
        note();
        tenNotes();
        ruled();
        ruledFromTheBegin();
        ruledFirst();
        look();
        lookBest();
        seed();
        fairsBounds();
        fairsDraws();
        fairsOfPeople();
        count();
        image();
        back();
        backToAll();
        t.finish(28, 35);
    }

    private static RankFord forced(String ford, String rule) {
        RankFord f = Checks.made(ford);
        Checks.rule(f, rule);
        f.force(0);
        return f;
    }

    private static void refusedOfThree(String call, ToIntFunction<RankFord> asked, int want) {
        t.refused(call, States::some, asked, want);
    }

    /** Refused whatever else is so, as on each of these states. */
    private static void refusedEach(String call, ToIntFunction<RankFord> asked, int want) {
        refusedOfThree(call, asked, want);
        t.refused(call + " of a full one", States::full, asked, want);
        t.refused(call + " at a FORD of nobody", States::nobody, asked, want);
        t.refused(call + " without a FORD", States::fordless, asked, want);
    }

    private static void note() {
        t.says(28, "NOTES 0 to 9, told: behind the n-th DAY of all (0 to 60) a PERSON was on a SIDE.");
        RankFord f = Checks.made(SIX);
        t.due("note(0, 0, 0)", f.note(0, 0, 0), 1);
        t.due("note(60, 5, 1)", f.note(60, 5, 1), 2);
        t.due("note(1, 0, 1)", f.note(1, 0, 1), 3);
        t.due("note(59, 5, 0)", f.note(59, 5, 0), 4);
        t.due("NOTES", f.count(8), 4);
        t.due("ACTS", f.count(9), 0);
        t.says(28, "-2, and nothing happens, without these");
        for (int n : new int[] {-2, 61, LEAST, GREATEST}) {
            refusedEach("note(" + n + ", 0, 0)", x -> x.note(n, 0, 0), -2);
        }
        for (int p : new int[] {-1, 3, 6, LEAST, GREATEST}) {
            refusedEach("note(0, " + p + ", 0)", x -> x.note(0, p, 0), -2);
        }
        for (int side : new int[] {-1, 2, LEAST, GREATEST}) {
            refusedEach("note(0, 0, " + side + ")", x -> x.note(0, 0, side), -2);
        }
        t.refused("note(0, 0, 0) at a FORD of nobody", States::nobody, x -> x.note(0, 0, 0), -2);
        t.refused("note(0, 0, 0) without a FORD", States::fordless, x -> x.note(0, 0, 0), -2);
        t.refused("note(0, 0, 0) of a new object", RankFord::new, x -> x.note(0, 0, 0), -2);
        t.due("note(0, 6, 0) of six", f.note(0, 6, 0), -2);
    }

    private static void tenNotes() {
        t.says(28, "or if there are 10.");
        RankFord f = Checks.made(ONE);
        for (int i = 1; i <= 10; i++) {
            t.due("note " + i, f.note(0, 0, i == 10 ? 0 : 1), i);
        }
        t.due("the eleventh", f.note(0, 0, 1), -2);
        t.due("NOTES", f.count(8), 10);
        t.due("the tenth is looked at", f.ruled(0), 0);
        t.refused("the eleventh of a full one", States::full, x -> x.note(0, 0, 0), -2);
        t.says(28, "(n NONE: there are none then, 0)");
        t.due("note(NONE)", f.note(NONE, 0, 0), 0);
        t.due("NOTES", f.count(8), 0);
        t.due("none is looked at", f.ruled(0), 1);
        for (int i = 1; i <= 10; i++) {
            t.due("note " + i + " again", f.note(i, 0, 1), i);
        }
        t.due("note(NONE), whoever and wherever", f.note(NONE, LEAST, GREATEST), 0);
        t.due("note(NONE) of none", f.note(NONE, 0, 0), 0);
        t.due("note(NONE) without a FORD", new RankFord().note(NONE, 0, 0), 0);
        t.changesNothing("note(NONE) of none", States::nobody, x -> x.note(NONE, 0, 0));
        f = States.some();
        f.note(NONE, 0, 0);
        RankFord twin = States.some();
        t.due("all else stays: DEEP", f.count(0), twin.count(0));
        t.due("all else stays: ACTS", f.count(9), twin.count(9));
        t.due("all else stays: x", f.count(10), twin.count(10));
        t.due("the NOTES of an IMAGE stay", f.back(2), 1);
        t.due("NOTES", f.count(8), 2);
    }

    private static void rules(RankFord f, String... texts) {
        for (String text : texts) {
            Checks.rule(f, text);
        }
    }

    private static void ruledIs(String when, RankFord f, int many, int first) {
        t.due("ruled(0), " + when, f.ruled(0), many);
        t.due("ruled(1), " + when, f.ruled(1), first);
    }

    private static void lookIs(String when, RankFord f, int day, int many) {
        t.due("look(0), " + when, f.look(0), day);
        t.due("look(1), " + when, f.look(1), many);
    }

    private static void ruled() {
        t.says(29, "1: the first (NONE: none; -2: there is none such)");
        RankFord f = Checks.made(ONE);
        ruledIs("no RULES, no NOTES", f, 1, NONE);
        f.note(0, 0, 0);
        ruledIs("no RULES, not so", f, 0, -2);
        rules(f, "go 0");
        ruledIs("RULE 0", f, 1, 0);
        rules(f, "go 0", "go 0", "go 0", "go 0", "go 0");
        ruledIs("six RULES", f, 6, 0);
        f.note(60, 0, 1);
        ruledIs("no RULE", f, 0, -2);
        f.note(NONE, 0, 0);
        ruledIs("six RULES and none", f, 7, NONE);
        ruledIs("nobody", Checks.made("ford 60 0"), 1, NONE);
        t.says(29, "-3 for others, or without a FORD.");
        for (int what : new int[] {-1, 2, LEAST, GREATEST}) {
            refusedEach("ruled(" + what + ")", x -> x.ruled(what), -3);
        }
        for (int what = 0; what <= 1; what++) {
            int each = what;
            t.refused("ruled(" + what + ") without a FORD", States::fordless, x -> x.ruled(each), -3);
            t.refused("ruled(" + what + ") of a new object", RankFord::new, x -> x.ruled(each), -3);
        }
        t.says(29, "(By what is asked nothing changes; DAYS go on by the RULE IN FORCE.)");
        t.changesNothing("ruled", States::some, x -> x.ruled(1));
        t.changesNothing("ruled of a full one", States::full, x -> x.ruled(0));
        t.changesNothing("ruled at a FORD of nobody", States::nobody, x -> x.ruled(0));
    }

    /** Behind DAY n the DAYS 0 to n have gone by. */
    private static void ruledFromTheBegin() {
        t.says(29, "from the begin on, all as the text told it, all NOTES are so");
        RankFord f = Checks.made(ONE);
        rules(f, "go 1 if day = 0", "go 1 if day = 1", "go 1 if day = 59", "go 1 if day = 60", "go 1 if day = 61");
        f.note(0, 0, 1);
        ruledIs("over behind DAY 0: none and 0", f, 2, NONE);
        f.note(NONE, 0, 0);
        f.note(0, 0, 0);
        ruledIs("here behind DAY 0: 1 and more", f, 4, 1);
        f.note(1, 0, 0);
        ruledIs("here behind DAY 1: 2 and more", f, 3, 2);
        f.note(59, 0, 0);
        ruledIs("here behind DAY 59: 3 and 4", f, 2, 3);
        f.note(60, 0, 0);
        ruledIs("here behind DAY 60: 4", f, 1, 4);
        f.note(NONE, 0, 0);
        f.note(60, 0, 1);
        ruledIs("over behind DAY 60: all but 4", f, 5, NONE);
        f.note(59, 0, 0);
        ruledIs("here behind DAY 59: 3", f, 1, 3);
        f.day();
        f.flood(60);
        f.remark(0, 0, 0);
        f.force(4);
        ruledIs("whatever came then", f, 1, 3);
        f = Checks.made("ford 1 0;person 0 0 0;person 1 0 0");
        f.note(0, 1, 1);
        ruledIs("1 over behind DAY 0", f, 1, NONE);
        f.note(60, 0, 0);
        ruledIs("0 here behind DAY 60", f, 1, NONE);
        f.note(60, 1, 0);
        ruledIs("1 here behind DAY 60", f, 0, -2);
    }

    private static void ruledFirst() {
        t.says(29, "the first (none ahead of 0, told as NONE)");
        RankFord f = Checks.made(ONE);
        rules(f, "go 1", "go 1", "go 0", "go 0", "go 0", "go 1 if day = 60");
        f.note(0, 0, 1);
        ruledIs("none, 0 and 1", f, 3, NONE);
        f.note(NONE, 0, 0);
        f.note(0, 0, 0);
        ruledIs("2 to 5", f, 4, 2);
        f.note(60, 0, 1);
        ruledIs("5, the last", f, 1, 5);
        f = Checks.made("ford 1 0;person 0 0 0;person 1 0 0;thinks 0 0 20");
        rules(f, "go 1 if alone = 1");
        f.note(0, 0, 0);
        ruledIs("0, and not none", f, 1, 0);
    }

    private static void look() {
        t.says(30, "LOOK what 0: the DAY, 1: how many; -2: no RULE is so.");
        RankFord f = Checks.made(ONE);
        lookIs("no RULES", f, 0, 1);
        f.note(0, 0, 0);
        lookIs("not so", f, -2, -2);
        lookIs("nobody", Checks.made("ford 60 0"), 0, 1);
        t.says(30, "NONE for others, or without a FORD.");
        for (int what : new int[] {-1, 2, LEAST, GREATEST}) {
            refusedEach("look(" + what + ")", x -> x.look(what), NONE);
        }
        for (int what = 0; what <= 1; what++) {
            int each = what;
            t.refused("look(" + what + ") without a FORD", States::fordless, x -> x.look(each), NONE);
            t.refused("look(" + what + ") of a new object", RankFord::new, x -> x.look(each), NONE);
        }
        t.says(30, "(By what is asked nothing changes; DAYS go on by the RULE IN FORCE.)");
        t.changesNothing("look", States::some, x -> x.look(1));
        t.changesNothing("look of a full one", States::full, x -> x.look(0));
        t.changesNothing("look at a FORD of nobody", States::nobody, x -> x.look(0));
    }

    private static void lookBest() {
        t.says(30, "the DAY (0 to 60) behind which by who is on SIDE 1 these part best: the most alike are "
                + "fewest, of several the least; how many.");
        RankFord f = Checks.made(ONE);
        rules(f, "go 1");
        lookIs("none and 0 alike", f, 0, 2);
        rules(f, "go 1", "go 1", "go 1", "go 1", "go 1");
        lookIs("seven alike", f, 0, 7);
        f = Checks.made(ONE);
        rules(f, "go 0");
        lookIs("behind DAY 0", f, 0, 1);
        f.note(0, 0, 0);
        rules(f, "go 1 if day = 60");
        lookIs("behind DAY 60 alone", f, 60, 1);
        f.note(60, 0, 0);
        rules(f, "go 1 if day = 61");
        lookIs("not behind DAY 61", f, 0, 2);
        f = Checks.made(ONE);
        rules(f, "go 1 if day = 59", "go 1 if day = 60");
        f.note(0, 0, 0);
        lookIs("behind DAY 59", f, 59, 1);
        f = Checks.made(ONE);
        rules(f, "go 1 if day = 1");
        lookIs("behind DAY 0 alone", f, 0, 1);
        rules(f, "go 1 if day = 2");
        f.note(0, 0, 0);
        lookIs("behind DAY 1 alone", f, 1, 1);
        f = Checks.made("ford 0 0;person 0 0 0;person 0 0 0;person 0 0 0");
        rules(f, "go 1 if alone=1 and person=0", "go 1 if alone=1 and person=1", "go 1 if alone=1 and person=2",
                "go 1 if person=0 and with=1", "go 1 if person=1 and with=2", "go 0");
        lookIs("seven unlike", f, 0, 1);
        f = Checks.made(ONE);
        rules(f, "go 0", "go 0", "go 1 if day = 1", "go 1 if day = 2", "go 1 if day = 3");
        // on SIDE 1 behind DAY 0: one of six; 1: two; 2: three; 3: four
        lookIs("three and three", f, 2, 3);
    }

    private static void seed() {
        t.says(31, "x becomes a number: what it was");
        RankFord f = new RankFord();
        t.due("seed(0)", f.seed(0), 0);
        t.due("seed of the greatest", f.seed(GREATEST), 0);
        t.due("seed(1)", f.seed(1), GREATEST);
        t.due("seed(0)", f.seed(0), 1);
        t.due("x", f.count(10), 0);
        t.says(31, "NONE, and nothing happens, below 0.");
        refusedEach("seed(-1)", x -> x.seed(-1), NONE);
        refusedEach("seed of the least", x -> x.seed(LEAST), NONE);
        t.refused("seed(-1) of a new object", RankFord::new, x -> x.seed(-1), NONE);
    }

    private static void fairsBounds() {
        t.says(32, "FAIRS m times (1 to 10) n DAYS (1 to 60) from now on");
        RankFord f = forced(ONE, "go 1 if day = 59");
        t.due("59 DAYS", f.fairs(1, 59, 0, 0), 0);
        t.due("60 DAYS", f.fairs(1, 60, 0, 0), 1);
        t.due("10 times 60 DAYS", f.fairs(10, 60, 0, 0), 10);
        t.due("COINS", f.fairs(10, 60, 0, 1), 70);
        t.due("9 times", f.fairs(9, 60, 0, 0), 9);
        t.due("DAY 60 is not among 60", forced(ONE, "go 1 if day = 60").fairs(1, 60, 0, 0), 0);
        t.due("1 DAY", Checks.made(ONE).fairs(1, 1, 0, 0), 1);
        f = forced(SIX, "go 1 if here - 1 = person and alone = 1");
        t.due("5 DAYS, one on each, 10 times", f.fairs(10, 5, 0, 0), 50);
        t.due("six, 10 times", Checks.made(SIX).fairs(10, 60, 100, 0), 60);
        t.due("COINS of six, 10 times", Checks.made(SIX).fairs(10, 60, 100, 1), 5940);
        t.due("COINS of none over", Checks.made("ford 1 0;person 0 9 0").fairs(10, 60, 100, 1), 0);
        t.says(32, "NONE without these, or a FORD.");
        int[][] wrong = {{0, 1, 0, 0}, {11, 1, 0, 0}, {1, 0, 0, 0}, {1, 61, 0, 0}, {1, 1, -1, 0}, {1, 1, 101, 0}, {1, 1, 0, -1},
            {1, 1, 0, 2}, {LEAST, 1, 0, 0}, {GREATEST, 1, 0, 0}, {1, LEAST, 0, 0}, {1, GREATEST, 0, 0}, {1, 1, LEAST, 0},
            {1, 1, GREATEST, 0}, {1, 1, 0, LEAST}, {1, 1, 0, GREATEST}};
        for (int[] w : wrong) {
            refusedEach("fairs(" + w[0] + ", " + w[1] + ", " + w[2] + ", " + w[3] + ")", x -> x.fairs(w[0], w[1], w[2], w[3]), NONE);
        }
        for (int what = 0; what <= 1; what++) {
            int each = what;
            t.refused("fairs without a FORD", States::fordless, x -> x.fairs(1, 1, 0, each), NONE);
            t.refused("fairs of a new object", RankFord::new, x -> x.fairs(10, 60, 100, each), NONE);
        }
        t.says(32, "(nothing stays; x as it was)");
        t.changesNothing("fairs", States::some, x -> x.fairs(10, 60, 100, 0));
        t.changesNothing("fairs of a full one", States::full, x -> x.fairs(1, 1, 100, 1));
        t.changesNothing("fairs at a FORD of nobody", States::nobody, x -> x.fairs(10, 60, 100, 0));
    }

    /** Whether by the DRAWS from x on, one DAY by p, the only PERSON THINKS so much of themselves. */
    private static void drawn(int x, int p, int self, int want) {
        RankFord f = forced(ONE, "go 1 if self = " + self);
        f.seed(x);
        t.due("fairs(1, 1, " + p + ", 0) from " + x + " if " + self, f.fairs(1, 1, p, 0), want);
        t.due("x", f.count(10), x);
    }

    private static void fairsDraws() {
        t.says(32, "DRAWS: x (0 to 2147483647; 0 at first) becomes x * 1103515245 + 12345, of 2147483648 the rest; a DRAW is x / 65536.");
        // from 2147483647 the DRAWS are 15929, 4409, 9862: 29 mod 100, and 13 mod 21
        drawn(GREATEST, 30, 13, 1);
        drawn(GREATEST, 29, 13, 0);
        drawn(GREATEST, 29, 10, 1);
        // from 0: 0, 21468, 9988: 0 mod 100, and 13 mod 21
        t.says(32, "ahead of each a DRAW mod 100: is it below p (0 to 100)");
        drawn(0, 1, 13, 1);
        drawn(0, 0, 13, 0);
        drawn(0, 0, 10, 1);
        // from 194: 22599, 21269, 1613: 99 mod 100, and 17 mod 21
        drawn(194, 100, 17, 1);
        drawn(194, 99, 17, 0);
        drawn(194, 99, 10, 1);
        // the next three from 0 are 22117, 3498, 16927: 17 mod 100, and 1 mod 21
        RankFord f = forced(ONE, "go 1 if self = 1");
        t.due("17 is below 18 on DAY 1, nobody having gone", f.fairs(1, 2, 18, 0), 1);
        t.due("17 is not below 17", f.fairs(1, 2, 17, 0), 0);
        t.due("17 is below 18 the second time", f.fairs(2, 1, 18, 0), 1);
        t.says(32, "then a DRAW mod 21: that one THINKS so much of themselves then");
        // from 1127: 4099, 11697, 20621: 99 mod 100, and 20 mod 21
        drawn(1127, 100, 20, 1);
        drawn(1127, 99, 20, 0);
    }

    private static void fairsOfPeople() {
        String six = "ford 0 0;person 0 1 0;person 0 2 0;person 0 4 0;person 0 8 0;person 0 16 0;person 0 32 0";
        t.says(32, "and are there PEOPLE, a DRAW mod how many");
        // from 11412: 7200, 19559, 3108: 0 mod 100, 5 mod 6, and 0 mod 21
        RankFord f = forced(six, "go 1 if self = 0 and alone = 1");
        f.seed(11412);
        t.due("how many THINK 0", f.fairs(1, 1, 1, 0), 1);
        t.due("the last one", f.fairs(1, 1, 1, 1), 32);
        // from 342: 24300, 22806, 20222: 0 mod 100, 0 mod 6, and 20 mod 21
        f = forced(six, "go 1 if self = 20 and alone = 1");
        f.seed(342);
        t.due("how many THINK 20", f.fairs(1, 1, 1, 0), 1);
        t.due("the first one", f.fairs(1, 1, 1, 1), 1);
        f = Checks.made("ford 0 0");
        t.due("nobody", f.fairs(10, 60, 100, 0), 0);
        t.due("COINS of nobody", f.fairs(10, 60, 100, 1), 0);
        t.says(32, "how many are on SIDE 1 then; COINS in all PURSES of these, all together");
        f = forced(six, "go 1 if person = 3 and alone = 1");
        f.cross(5, 5);
        t.due("3 and 5", f.fairs(1, 1, 0, 0), 2);
        t.due("COINS of 3 and 5", f.fairs(1, 1, 0, 1), 40);
        t.due("10 times", f.fairs(10, 1, 0, 1), 400);
    }

    private static void count() {
        t.says(33, "6: PEOPLE on SIDE 1, as bits, 7: COINS in all PURSES, 8: NOTES, 9: ACTS that can be UNDONE, "
                + "10: x, 11: bytes of the TAPE.");
        RankFord f = Checks.made("ford 60 5" + ";person 60 99 9".repeat(6));
        for (int i = 0; i < 6; i++) {
            Checks.rule(f, "go 1");
        }
        f.force(5);
        f.day();
        for (int i = 0; i < 20; i++) {
            f.day();
            f.note(i, 5, 1);
        }
        f.seed(GREATEST);
        Checks.put(f, States.fullText());
        int[] full = {60, 5, 6, 6, 5, 21, 63, 594, 10, 20, GREATEST, 400};
        for (int what = 0; what <= 11; what++) {
            t.due("count(" + what + ") of a full one", f.count(what), full[what]);
        }
        f = Checks.made("ford 0 0");
        int[] none = {0, 0, 0, 0, NONE, 0, 0, 0, 0, 0, 0, 0};
        for (int what = 0; what <= 11; what++) {
            t.due("count(" + what + ") at a FORD of nobody", f.count(what), none[what]);
            t.due("count(" + what + ") of a new object", new RankFord().count(what), none[what]);
        }
        t.says(33, "NONE for others.");
        for (int what : new int[] {-1, 12, LEAST, GREATEST}) {
            refusedEach("count(" + what + ")", x -> x.count(what), NONE);
            t.refused("count(" + what + ") of a new object", RankFord::new, x -> x.count(what), NONE);
        }
    }

    private static void image() {
        t.says(34, "An IMAGE is made: DAY");
        RankFord f = new RankFord();
        t.due("image(0) of a new object", f.image(0), 0);
        Checks.ford(f, SIX);
        t.due("image(3)", f.image(3), 0);
        f.day();
        t.due("image(1)", f.image(1), 1);
        f.day();
        t.due("image(1) in place of it", f.image(1), 2);
        t.due("ACTS stay", f.count(9), 2);
        t.due("an ACT can still be UNDONE", f.undo(), 1);
        t.due("back(1)", f.back(1), 2);
        t.due("back(3)", f.back(3), 0);
        t.due("back(0)", f.back(0), 0);
        t.due("no FORD there", f.day(), NONE);
        t.says(34, "NONE without it.");
        for (int k : new int[] {-1, 4, LEAST, GREATEST}) {
            refusedEach("image(" + k + ")", x -> x.image(k), NONE);
            t.refused("image(" + k + ") of a new object", RankFord::new, x -> x.image(k), NONE);
        }
    }

    private static void back() {
        t.says(35, "NONE, and nothing happens, if it was never made, or without it.");
        for (int k : new int[] {-1, 4, LEAST, GREATEST}) {
            refusedEach("back(" + k + ")", x -> x.back(k), NONE);
        }
        refusedOfThree("back(1), never made", x -> x.back(1), NONE);
        refusedOfThree("back(3), never made", x -> x.back(3), NONE);
        t.refused("back(0), never made", States::nobody, x -> x.back(0), NONE);
        t.refused("back(0) without a FORD, never made", States::fordless, x -> x.back(0), NONE);
        for (int k = 0; k <= 3; k++) {
            int each = k;
            t.refused("back(" + k + ") of a new object", RankFord::new, x -> x.back(each), NONE);
        }
        t.says(35, "gone back to, it is as it was (these stay; nothing can be UNDONE then)");
        RankFord f = States.full();
        t.due("ACTS", f.count(9), 20);
        for (int k = 0; k <= 3; k++) {
            t.due("back(" + k + ")", f.back(k), 0);
            t.due("what 0 THOUGHT of 1", f.thinks(0, 1), k);
            t.due("ACTS", f.count(9), 0);
            t.due("undo()", f.undo(), NONE);
            f.flood(50);
            t.due("an ACT since", f.count(9), 1);
        }
        t.due("back(3) again", f.back(3), 0);
        t.due("DEEP", f.count(0), 6);
        t.due("the TAPE stays", f.count(11), 400);
    }

    private static void backToAll() {
        t.says(35, "IMAGES 0 to 3: all but the TAPE and the RULES, as it is (the RULE IN FORCE, too)");
        RankFord f = Checks.made(ONE);
        Checks.rule(f, "go 1 if day = 1");
        f.force(0);
        f.seed(5);
        f.note(0, 0, 0);
        f.day();
        f.image(0);
        f.note(1, 0, 0);
        f.seed(6);
        f.force(NONE);
        f.remark(0, 0, 3);
        Checks.rule(f, "go 0");
        Checks.ford(f, "ford 60 5;person 0 99 9;person 0 0 0");
        f.feed(0, 0, 0, 0, 0);
        t.due("back(0)", f.back(0), 1);
        int[] counts = {0, 0, 1, 2, 0, 1, 0, 7, 1, 0, 5, 20};
        for (int what = 0; what < counts.length; what++) {
            t.due("count(" + what + ")", f.count(what), counts[what]);
        }
        t.due("what 0 THINKS", f.thinks(0, 0), 10);
        t.due("the NOTE, by the text told then, and RULES told since", f.ruled(0), 2);
        t.due("the first", f.ruled(1), 0);
        t.due("DAY 1 by RULE 0", f.day(), 1);
        t.due("back(0) again", f.back(0), 1);
        t.due("who is over", f.count(6), 0);
        f = Checks.made("ford 1 0;person 0 0 0;person 1 0 0");
        f.note(60, 0, 0);
        f.image(1);
        f.note(NONE, 0, 0);
        f.note(0, 1, 0);
        f.image(2);
        f.note(NONE, 0, 0);
        f.note(0, 1, 1);
        t.due("by this NOTE", f.ruled(0), 1);
        f.back(2);
        t.due("by the NOTE of IMAGE 2", f.ruled(0), 0);
        f.back(1);
        t.due("by the NOTE of IMAGE 1", f.ruled(0), 1);
        Checks.rule(f, "go 1 if day = 1");
        f.note(0, 1, 0);
        t.due("RULE 0 alone, behind DAY 0", f.ruled(1), 0);
        f.image(1);
        f.note(NONE, 0, 0);
        f.note(1, 1, 0);
        f.note(1, 1, 0);
        t.due("no RULE, behind DAY 1", f.ruled(1), -2);
        f.back(1);
        t.due("RULE 0 alone, behind DAY 0 again", f.ruled(1), 0);
        f = new RankFord();
        f.image(2);
        Checks.ford(f, ONE);
        f.note(0, 0, 0);
        f.seed(8);
        t.due("back to no FORD", f.back(2), 0);
        int[] none = {0, 0, 0, 0, NONE, 0, 0, 0, 0, 0, 0, 0};
        for (int what = 0; what < none.length; what++) {
            t.due("count(" + what + ") of no FORD", f.count(what), none[what]);
        }
        t.due("flood(1)", f.flood(1), NONE);
        t.due("ruled(0)", f.ruled(0), -3);
        RankFord twin = new RankFord();
        twin.image(2);
        t.sameAsTwin("back to no FORD", f, twin);
    }
}
