import java.util.function.ToIntFunction;

/** Boundary cases of promises 16 to 27: what is asked. */
public final class AskEdgeTests {
    private static final int NONE = RankFord.NONE;
    private static final int LEAST = Integer.MIN_VALUE;
    private static final int GREATEST = Integer.MAX_VALUE;
    /** Numbers of nobody at a FORD of three. */
    private static final int[] NOBODY = {-1, 3, 6, LEAST, GREATEST};
    private static final String ONE = "ford 0 1;person 0 7 0";
    private static final String SIX = "ford 0 0" + ";person 0 0 0".repeat(6);

    /** The last who is here goes. */
    private static final String ONE_A_DAY = "go 1 if here - 1 = person and alone = 1";

    private static Edges t;

    public static void main(String[] args) {
        t = new Edges("AskEdgeTests", args);
        ahead();
        over();
        most();
        mostTwos();
        mostWays();
        fewest();
        fewestWays();
        ring();
        ringRows();
        oneRemark();
        oneRemarkNumbers();
        rise();
        fair();
        self();
        hired();
        hiredBest();
        rests();
        restsFees();
        price();
        priceFees();
        t.finish(16, 27);
    }

    /** So many THINK 20 of themselves, and at a FORD of 10 it is 0 deep for them with each other. */
    private static String proud(int people) {
        StringBuilder thoughts = new StringBuilder();
        for (int p = 0; p < people; p++) {
            thoughts.append(";thinks ").append(p).append(" ").append(p).append(" 20");
        }
        return thoughts.toString();
    }

    private static RankFord forced(String ford, String rule) {
        RankFord f = Checks.made(ford);
        Checks.rule(f, rule);
        f.force(0);
        return f;
    }

    private static RankFord allOver() {
        RankFord f = Checks.made(SIX);
        f.day();
        return f;
    }

    /** Refused whatever else is so, as on each of these states. */
    private static void refusedEach(String call, ToIntFunction<RankFord> asked, int want) {
        t.refused(call, States::some, asked, want);
        t.refused(call + " of a full one", States::full, asked, want);
        t.refused(call + " at a FORD of nobody", States::nobody, asked, want);
        t.refused(call + " without a FORD", States::fordless, asked, want);
    }

    private static void whats(String call, WithWhat asked, int last, int want) {
        for (int what : new int[] {-1, last + 1, LEAST, GREATEST}) {
            refusedEach(call + " for " + what, f -> asked.of(f, what), want);
        }
        for (int what = 0; what <= last; what++) {
            int each = what;
            t.refused(call + " for " + what + " without a FORD", States::fordless, f -> asked.of(f, each), want);
            t.refused(call + " for " + what + " of a new object", RankFord::new, f -> asked.of(f, each), want);
        }
    }

    /** A call that takes what is asked for. */
    private interface WithWhat {
        int of(RankFord f, int what);
    }

    private static void changesNothing(String call, ToIntFunction<RankFord> asked) {
        t.says(16, "(By what is asked nothing changes; DAYS go on by the RULE IN FORCE.)");
        t.changesNothing(call, States::some, asked::applyAsInt);
        t.changesNothing(call + " of a full one", States::full, asked::applyAsInt);
        t.changesNothing(call + " at a FORD of nobody", States::nobody, asked::applyAsInt);
    }

    private static void ahead() {
        t.says(16, "AHEAD n DAYS (0 to 60): on which SIDE a PERSON is; their PURSE; what they THINK of themselves.");
        RankFord f = forced(ONE, "go 1 if day = 59");
        t.due("0 DAYS", f.ahead(0, 0, 0), 0);
        t.due("0 DAYS", f.ahead(0, 0, 1), 7);
        t.due("0 DAYS", f.ahead(0, 0, 2), 10);
        t.due("59 DAYS", f.ahead(0, 59, 0), 0);
        t.due("60 DAYS", f.ahead(0, 60, 0), 1);
        t.due("60 DAYS", f.ahead(0, 60, 2), 11);
        t.due("DAY 60 is not among 60", forced(ONE, "go 1 if day = 60").ahead(0, 60, 0), 0);
        t.due("1 DAY", Checks.made(ONE).ahead(0, 1, 0), 1);
        t.due("6 PEOPLE", Checks.made(SIX).ahead(5, 1, 0), 1);
        t.due("20 at most", Checks.made("ford 0 5;person 0 0 0;thinks 0 0 18").ahead(0, 1, 2), 20);
        f = forced(SIX, ONE_A_DAY);
        t.due("5 DAYS, one on each", f.ahead(0, 5, 0), 0);
        t.due("6 DAYS, one on each", f.ahead(0, 6, 0), 1);
        t.due("over behind 6", f.over(), 6);
        f = forced(ONE, "go day");
        t.due("1 DAY, DAY 0", f.ahead(0, 1, 0), 0);
        t.due("2 DAYS, 0 and 1", f.ahead(0, 2, 0), 1);
        t.says(16, "NONE without these.");
        for (int n : new int[] {-1, 61, LEAST, GREATEST}) {
            refusedEach("ahead(0, " + n + ", 0)", x -> x.ahead(0, n, 0), NONE);
        }
        for (int p : NOBODY) {
            refusedEach("ahead(" + p + ", 0, 0)", x -> x.ahead(p, 0, 0), NONE);
        }
        for (int what : new int[] {-1, 3, LEAST, GREATEST}) {
            refusedEach("ahead(0, 0, " + what + ")", x -> x.ahead(0, 0, what), NONE);
        }
        t.refused("ahead(0, 0, 0) at a FORD of nobody", States::nobody, x -> x.ahead(0, 0, 0), NONE);
        t.refused("ahead(0, 0, 0) without a FORD", States::fordless, x -> x.ahead(0, 0, 0), NONE);
        changesNothing("ahead", x -> x.ahead(0, 60, 1));
    }

    private static void over() {
        t.says(17, "OVER: the first DAY, this one the first, of 60, at whose begin all are on SIDE 1.");
        t.due("all are over now", allOver().over(), 1);
        t.due("a FORD of nobody", Checks.made("ford 60 0").over(), 0);
        t.due("behind one DAY", Checks.made(SIX).over(), 1);
        t.due("the 60th", forced(ONE, "go 1 if day = 58").over(), 59);
        RankFord f = forced(ONE, "go 1 if day = 60");
        f.day();
        t.due("on DAY 1 the 61st", f.over(), -2);
        f.day();
        t.due("on DAY 2 the 60th", f.over(), 61);
        t.says(17, "-2: at none of these");
        t.due("the 61st", forced(ONE, "go 1 if day = 59").over(), -2);
        t.due("never", Checks.made("ford 1 0;person 0 0 0").over(), -2);
        t.due("all but one", Checks.made("ford 1 0;person 1 0 0;person 0 0 0").over(), -2);
        t.says(17, "NONE without a FORD.");
        t.refused("over() without a FORD", States::fordless, RankFord::over, NONE);
        t.refused("over() of a new object", RankFord::new, RankFord::over, NONE);
        changesNothing("over", RankFord::over);
    }

    private static void mosts(String of, RankFord f, int... wanted) {
        for (int what = 0; what < wanted.length; what++) {
            t.due("most(" + what + ") of " + of, f.most(what), wanted[what]);
        }
    }

    private static void most() {
        t.says(18, "2 to 7: whom the PERSON less 2 goes with (themselves: alone; NONE: stays; -2: there is none such, or not on SIDE 0)");
        mosts("six", Checks.made(SIX), 6, 0, 0, 1, 2, 3, 4, 5);
        mosts("nobody", Checks.made("ford 0 0"), 0, 0, -2, -2, -2, -2, -2, -2);
        mosts("six who are over", allOver(), 0, 0, -2, -2, -2, -2, -2, -2);
        mosts("one who stays", Checks.made("ford 1 0;person 0 0 0"), 0, 0, NONE, -2, -2, -2, -2, -2);
        RankFord f = Checks.made(SIX);
        f.cross(5, 5);
        f.cross(0, 0);
        mosts("four of six", f, 4, 0, -2, 1, 2, 3, 4, -2);
        t.says(18, "-3 for others, or without a FORD.");
        whats("most", RankFord::most, 7, -3);
        changesNothing("most", x -> x.most(0) + x.most(1) + x.most(2));
    }

    private static void mostTwos() {
        t.says(18, "(of a two the one of less number hires the other one)");
        mosts("3 for 3", Checks.made("ford 10 0;person 5 3 9;person 5 0 3" + proud(2)), 2, 3, 1, 0);
        mosts("2 for 3", Checks.made("ford 10 0;person 5 2 0;person 5 9 3" + proud(2)), 0, 0, NONE, NONE);
        mosts("0 for 0", Checks.made("ford 10 0;person 5 0 9;person 5 0 0" + proud(2)), 2, 0, 1, 0);
        t.says(18, "those on SIDE 0 part into ones and twos that all CAN go as all is now");
        mosts("10 by 10 alone", Checks.made("ford 10 0;person 10 0 0;person 9 0 0"), 1, 0, 0, NONE);
        mosts("0 by 0 in a two", Checks.made("ford 10 0;person 0 0 0;person 0 0 0" + proud(2)), 2, 0, 1, 0);
        mosts("1 by 0 in a two", Checks.made("ford 10 0;person 0 0 0;person 0 0 0;thinks 0 0 20;thinks 1 1 19"), 0, 0, NONE, NONE);
    }

    private static void mostWays() {
        t.says(18, "the most who go; of those ways the fewest COINS for FEES");
        mosts("more by a dear two", Checks.made("ford 10 0;person 9 9 0;person 10 0 9;thinks 0 0 11"), 2, 9, 1, 0);
        mosts("alone for nothing, not in a two for 1", Checks.made("ford 10 0;person 10 9 0;person 10 0 1"), 2, 0, 0, 1);
        String four = "ford 10 0;person 0 9 0;person 0 9 2;person 0 9 1;person 0 9 2" + proud(4);
        mosts("0 and 2 for 1, 1 and 3 for 2", Checks.made(four), 4, 3, 2, 3, 0, 1);
        t.says(18, "(staying ahead of alone, that ahead of others by numbers; the row that differs first)");
        mosts("staying ahead of others", Checks.made("ford 10 0;person 0 0 0;person 0 0 0;person 0 0 0" + proud(3)),
                2, 0, NONE, 2, 1);
        mosts("alone ahead of others", Checks.made("ford 0 0;person 0 0 0;person 0 0 0"), 2, 0, 0, 1);
        mosts("others by numbers", Checks.made("ford 10 0" + ";person 0 0 0".repeat(4) + proud(4)), 4, 0, 1, 0, 3, 2);
        mosts("0 not alone, so that all go", Checks.made("ford 10 0;person 10 0 0;person 0 0 0;person 0 0 0;person 0 0 0" + proud(4)),
                4, 0, 1, 0, 3, 2);
        mosts("1 with 0, and not with 2", Checks.made("ford 10 0;person 10 0 0;person 0 0 0;person 10 0 0;thinks 1 1 20;thinks 1 2 20"),
                3, 0, 1, 0, 2);
        mosts("1 with 2, and not with 0", Checks.made("ford 10 0;person 10 0 0;person 0 0 0;person 10 0 0;thinks 1 1 20;thinks 1 0 20"),
                3, 0, 0, 2, 1);
    }

    private static void fewests(String of, RankFord f, int... wanted) {
        for (int what = 0; what < wanted.length; what++) {
            t.due("fewest(" + what + ") of " + of, f.fewest(what), wanted[what]);
        }
    }

    private static void fewest() {
        t.says(19, "1, 2: who goes first, with whom (themselves: alone; NONE: all are over); -2: by none.");
        fewests("one", Checks.made(ONE), 1, 0, 0);
        fewests("six who are over", allOver(), 0, NONE, NONE);
        fewests("nobody", Checks.made("ford 60 0"), 0, NONE, NONE);
        fewests("one who CAN not", Checks.made("ford 1 0;person 0 0 0"), -2, -2, -2);
        fewests("one of two who CAN not", Checks.made("ford 11 0;person 60 0 0;person 0 0 0;thinks 1 1 20"), -2, -2, -2);
        fewests("one of two who CAN with the other one", Checks.made("ford 10 0;person 60 0 0;person 0 0 0;thinks 1 1 20"), 1, 0, 1);
        RankFord f = Checks.made("ford 0 0;person 0 0 0;person 0 0 0;person 0 0 0");
        f.cross(0, 0);
        f.cross(1, 1);
        fewests("the last one", f, 1, 2, 2);
        f = Checks.made(SIX);
        for (int p = 0; p < 4; p++) {
            f.cross(p, p);
        }
        fewests("the last two of six", f, 1, 4, 5);
        f.flood(1);
        fewests("the same, too deep", f, -2, -2, -2);
        t.says(19, "-3 for others, or without a FORD.");
        whats("fewest", RankFord::fewest, 2, -3);
        changesNothing("fewest", x -> x.fewest(0) + x.fewest(2));
    }

    private static void fewestWays() {
        t.says(19, "(what is THOUGHT stays as it is now, and so do PURSES, FEES are not looked at)");
        // with 0 alone each other one CAN go: 0 goes five times with them and four times back
        fewests("six by one", Checks.made("ford 10 5;person 60 0 9" + ";person0 0 9".repeat(5)
                + ";thinks1 0 0;thinks2 0 0;thinks3 0 0;thinks4 0 0;thinks5 0 0"), 9, 0, 1);
        fewests("two without COINS", Checks.made("ford 10 5;person 0 0 9;person 0 0 9;thinks 0 0 20;thinks 1 1 20"), 1, 0, 1);
        t.says(19, "(alone ahead of with others; the PERSON of least number, then the other one's)");
        fewests("three", Checks.made("ford 0 0" + ";person 0 0 0".repeat(3)), 2, 0, 0);
        fewests("two", Checks.made("ford 0 0" + ";person 0 0 0".repeat(2)), 1, 0, 1);
        fewests("three, 0 not alone", Checks.made("ford 10 0;person 0 0 0;person 60 0 0;person 60 0 0;thinks 0 0 20"), 2, 1, 1);
        fewests("four", Checks.made("ford 0 0" + ";person 0 0 0".repeat(4)), 2, 0, 1);
        fewests("four who CAN not alone, 0 with 2 and 3",
                Checks.made("ford 10 0" + ";person 0 0 0".repeat(4) + proud(4) + ";thinks 0 1 11"), 2, 0, 2);
        RankFord f = Checks.made("ford 10 0;person 60 0 0;person 0 0 0;person 60 0 0;thinks 1 0 20;thinks 1 2 0");
        f.cross(2, 2);
        fewests("2 must come back for 1; 0 goes first", f, 3, 0, 0);
    }

    private static void rings(String thoughts, int many, int set) {
        RankFord f = Checks.made("ford0 0" + ";person0 9 1".repeat(6) + thoughts);
        t.due("ring(0) of '" + thoughts + "'", f.ring(0), many);
        t.due("ring(1) of '" + thoughts + "'", f.ring(1), set);
    }

    private static void ring() {
        t.says(20, "who LOOKS DOWN on another one: THINKS less of them than of themselves");
        rings(";thinks0 1 9;thinks1 0 9", 2, 3);
        rings(";thinks0 1 9;thinks1 0 10", -2, -2);
        rings(";thinks0 1 10;thinks1 0 9", -2, -2);
        rings(";thinks0 0 1;thinks0 1 0;thinks1 1 20;thinks1 0 19", 2, 3);
        rings(";thinks0 0 0;thinks0 1 0;thinks1 0 0", -2, -2);
        t.says(20, "the shortest ring of PEOPLE, each of whom LOOKS DOWN on the next, the last on the first, two at least");
        rings(";thinks0 1 9;thinks1 2 9;thinks2 3 9;thinks3 4 9;thinks4 5 9;thinks5 0 9", 6, 63);
        rings(";thinks0 1 9;thinks1 2 9;thinks2 3 9;thinks3 4 9;thinks4 5 9", -2, -2);
        rings(";thinks0 2 9;thinks2 1 9;thinks1 0 9", 3, 7);
        rings(";thinks0 1 9;thinks1 2 9;thinks2 3 9;thinks3 4 9;thinks4 5 9;thinks5 0 9;thinks5 4 9", 2, 48);
        RankFord f = Checks.made("ford 0 0;person 0 0 0;thinks 0 0 20");
        t.due("one alone", f.ring(0), -2);
        t.due("one alone", f.ring(1), -2);
        t.says(20, "-2: there is none.");
        rings("", -2, -2);
        t.due("nobody", Checks.made("ford 0 0").ring(0), -2);
        t.due("nobody", Checks.made("ford 0 0").ring(1), -2);
        t.says(20, "NONE for others, or without a FORD.");
        whats("ring", RankFord::ring, 1, NONE);
        changesNothing("ring", x -> x.ring(0) + x.ring(1));
    }

    private static void ringRows() {
        t.says(20, "the set of the first of these (as rows that begin with their least PERSON, least numbers first)");
        rings(";thinks4 5 9;thinks5 4 9;thinks0 3 9;thinks3 0 9", 2, 9);
        rings(";thinks0 1 9;thinks0 2 9;thinks2 0 9", 2, 5);
        rings(";thinks0 1 9;thinks1 2 9;thinks0 3 9;thinks3 4 9;thinks4 0 9", 3, 25);
        rings(";thinks0 2 9;thinks2 0 9;thinks0 1 9;thinks1 0 9", 2, 3);
        rings(";thinks0 2 9;thinks2 1 9;thinks1 0 9;thinks0 1 9;thinks1 3 9;thinks3 0 9;thinks1 0 10", 3, 11);
        // 0, 1, 4 is ahead of 0, 2, 3, and 0, 2, 4 ahead of 0, 3, 1, though their bits are more
        rings(";thinks0 2 9;thinks2 3 9;thinks3 0 9;thinks0 1 9;thinks1 4 9;thinks4 0 9", 3, 19);
        rings(";thinks0 3 9;thinks3 1 9;thinks1 0 9;thinks0 2 9;thinks2 4 9;thinks4 0 9", 3, 21);
        rings(";thinks3 1 9;thinks1 5 9;thinks5 3 9;thinks2 4 9;thinks4 3 9;thinks3 2 9", 3, 42);
    }

    private static void remarks(String of, RankFord f, int many, int who, int number) {
        t.due("oneRemark(0) of " + of, f.oneRemark(0), many);
        t.due("oneRemark(1) of " + of, f.oneRemark(1), who);
        t.due("oneRemark(2) of " + of, f.oneRemark(2), number);
    }

    private static void oneRemark() {
        t.says(21, "1: who (NONE: nothing), 2: the number (NONE likewise).");
        remarks("six who all CAN", Checks.made(SIX), 6, NONE, NONE);
        remarks("nobody", Checks.made("ford 60 0"), 0, NONE, NONE);
        remarks("six who are over", allOver(), 0, NONE, NONE);
        remarks("one who CAN not", Checks.made("ford 1 0;person 0 0 0"), 0, NONE, NONE);
        t.says(21, "-2 for others, or without a FORD.");
        whats("oneRemark", RankFord::oneRemark, 2, -2);
        changesNothing("oneRemark", x -> x.oneRemark(0) + x.oneRemark(1) + x.oneRemark(2));
    }

    private static void oneRemarkNumbers() {
        t.says(21, "one PERSON THINKING another number of themselves, or nothing, so that most of those on SIDE "
                + "0 CAN go alone, or with somebody there");
        remarks("20 is enough", Checks.made("ford 10 0;person 0 0 0;person 60 0 0"), 2, 0, 20);
        remarks("20 is not enough", Checks.made("ford 11 0;person 0 0 0;person 60 0 0"), 1, NONE, NONE);
        remarks("1 is enough", Checks.made("ford 10 0;person 9 0 0;person 60 0 0;thinks 0 0 0;thinks 0 1 0"), 2, 0, 1);
        remarks("0 is enough, so nothing", Checks.made("ford 10 0;person 10 0 0;person 60 0 0;thinks 0 0 0;thinks 0 1 0"), 2, NONE, NONE);
        RankFord f = Checks.made("ford 10 0;person 0 0 0;person 60 0 0");
        f.cross(1, 1);
        remarks("nobody there", f, 0, NONE, NONE);
        t.says(21, "(whom they hire, FEE too; each looked at by themselves, as all is now)");
        remarks("3 for 3", Checks.made("ford 10 0;person 0 3 0;person 60 0 3"), 2, 0, 20);
        remarks("2 for 3", Checks.made("ford 10 0;person 0 2 0;person 60 0 3"), 1, NONE, NONE);
        // 0 and 1 each hire 2, who could go but once
        remarks("two who hire one", Checks.made("ford 10 0;person 0 0 0;person 0 0 0;person 60 0 0;thinks 0 0 20"), 3, 1, 20);
        remarks("the last of six, who has not the FEE", Checks.made("ford 10 0" + ";person 0 0 1".repeat(5) + ";person 0 0 1;thinks 5 5 20"
                + ";thinks 4 4 20"), 0, NONE, NONE);
        t.says(21, "who (none first, then the least); the least number");
        remarks("0 by 15, with 2 of six", Checks.made("ford 10 0" + ";person 5 99 0".repeat(6) + ";thinks 2 0 0"), 2, 0, 15);
        remarks("0 ahead of 1", Checks.made("ford 10 0;person 5 0 0;person 5 0 0;person 60 0 0"), 2, 0, 15);
        remarks("1, by whom both CAN", Checks.made("ford 10 0;person 5 0 0;person 5 0 0;thinks 0 0 20"), 2, 1, 15);
    }

    private static void rise() {
        t.says(22, "RISE: the least DEEP, 0 to 60, in place of what it is, at which a PERSON CAN no more go "
                + "alone, nor with anybody on their SIDE.");
        t.due("HEIGHT 0", Checks.made("ford 60 0;person 0 0 0").rise(0), 1);
        t.due("HEIGHT 59", Checks.made("ford 0 0;person 59 0 0").rise(0), 60);
        String two = "ford 33 0;person 0 3 0;person 60 0 3;thinks 0 0 20";
        RankFord f = Checks.made(two);
        t.due("with 1", f.rise(0), 11);
        t.due("1 alone at 60", f.rise(1), -2);
        f.pay(0, 1, 1);
        t.due("2 for 3", f.rise(0), 1);
        f.undo();
        f.cross(1, 1);
        t.due("1 on the other SIDE", f.rise(0), 1);
        f.flood(0);
        f.cross(0, 0);
        t.due("both on SIDE 1", f.rise(0), 11);
        t.due("1 too low for more", Checks.made(two.replace("person 60 0 3", "person 5 0 3")).rise(0), 6);
        t.says(22, "-2: at none");
        t.due("HEIGHT 60", Checks.made("ford 0 0;person 60 0 0").rise(0), -2);
        t.due("50 by 50 at 60, with 1", Checks.made("ford 0 0;person 50 0 0;person 60 0 0;thinks 0 0 20").rise(0), -2);
        t.due("50 by 49 at 60, with 1", Checks.made("ford 0 0;person 49 0 0;person 60 0 0;thinks 0 0 20").rise(0), 60);
        t.says(22, "NONE without that PERSON.");
        for (int p : NOBODY) {
            refusedEach("rise(" + p + ")", x -> x.rise(p), NONE);
        }
        t.refused("rise(0) at a FORD of nobody", States::nobody, x -> x.rise(0), NONE);
        t.refused("rise(0) without a FORD", States::fordless, x -> x.rise(0), NONE);
        t.due("rise(6) of six", Checks.made(SIX).rise(6), NONE);
        t.due("rise(5) of six", Checks.made(SIX).rise(5), 1);
        changesNothing("rise", x -> x.rise(0));
    }

    private static void fair() {
        t.says(23, "FAIR: PEOPLE for whom DEPTH with each other one is 1 or less, as bits.");
        t.due("1", Checks.made("ford 1 0;person 0 0 0;person 0 0 0").fair(), 3);
        t.due("2", Checks.made("ford 2 0;person 0 0 0;person 0 0 0").fair(), 0);
        t.due("1 and 2", Checks.made("ford 1 0;person 0 0 0;person 0 0 0;thinks 1 0 11").fair(), 1);
        t.due("one of two others too deep", Checks.made("ford 1 0" + ";person 0 0 0".repeat(3) + ";thinks 0 2 11").fair(), 6);
        t.due("the first of two others too deep", Checks.made("ford 1 0" + ";person 0 0 0".repeat(3) + ";thinks 2 0 11").fair(), 3);
        t.due("0 at least", Checks.made("ford 0 0;person 0 0 0;person 0 0 0;thinks 0 1 0;thinks 1 0 20").fair(), 1);
        t.due("six", Checks.made(SIX).fair(), 63);
        t.due("five of six", Checks.made(SIX + ";thinks 5 0 12").fair(), 31);
        t.says(23, "FAIR, as bits (one alone: too)");
        t.due("one alone at 60", Checks.made("ford 60 0;person 0 0 0").fair(), 1);
        t.due("nobody", Checks.made("ford 60 0").fair(), 0);
        t.says(23, "NONE without a FORD.");
        t.refused("fair() without a FORD", States::fordless, RankFord::fair, NONE);
        t.refused("fair() of a new object", RankFord::new, RankFord::fair, NONE);
        changesNothing("fair", RankFord::fair);
    }

    private static int selfOf(int deep, int height, int purse, int otherHeight, int fee) {
        return Checks.made("ford " + deep + " 0;person " + height + " " + purse + " 0;person " + otherHeight + " 0 " + fee
                + ";thinks 0 0 13").self(0, 1);
    }

    private static void self() {
        t.says(24, "the least number they must THINK of themselves, in place of what they do, so that they CAN go with that one.");
        t.due("0 + 10 - 0 by 10", selfOf(0, 10, 0, 60, 0), 0);
        t.due("0 + 10 - 0 by 9", selfOf(0, 9, 0, 60, 0), 1);
        t.due("0 + 10 - 0 by 60", selfOf(0, 60, 0, 60, 0), 0);
        t.due("10 + 10 - 20 by 0", selfOf(10, 0, 0, 60, 0), 20);
        t.due("3 for 3", selfOf(10, 0, 3, 60, 3), 20);
        t.due("10 for 1 by 10", selfOf(10, 0, 0, 10, 0), 20);
        t.says(24, "-2: by none");
        t.due("11 + 10 - 20 by 0", selfOf(11, 0, 0, 60, 0), -2);
        t.due("2 for 3", selfOf(10, 0, 2, 60, 3), -2);
        t.due("10 for 1 by 9", selfOf(10, 0, 0, 9, 0), -2);
        t.says(24, "SELF of a PERSON with another one on the same SIDE");
        RankFord f = Checks.made("ford 0 0;person 0 0 0;person 60 0 0");
        f.cross(1, 1);
        t.due("on other SIDES", f.self(0, 1), NONE);
        t.due("on other SIDES", f.self(1, 0), NONE);
        f.cross(0, 0);
        t.due("both on SIDE 1", f.self(0, 1), 10);
        t.says(24, "NONE without these (unlike).");
        for (int p : NOBODY) {
            refusedEach("self(" + p + ", 0)", x -> x.self(p, 0), NONE);
            refusedEach("self(0, " + p + ")", x -> x.self(0, p), NONE);
        }
        t.refused("self(0, 0)", States::some, x -> x.self(0, 0), NONE);
        t.refused("self(0, 1), who is on SIDE 1", States::some, x -> x.self(0, 1), NONE);
        t.refused("self(0, 1) at a FORD of nobody", States::nobody, x -> x.self(0, 1), NONE);
        t.refused("self(0, 1) without a FORD", States::fordless, x -> x.self(0, 1), NONE);
        changesNothing("self", x -> x.self(0, 2) + x.self(2, 0));
    }

    private static void hired() {
        t.says(25, "HIRED for n DAYS (1 to 30)");
        RankFord f = forced(ONE, "go 1 if day = 29");
        t.due("1 DAY", f.hired(1, 1), 0);
        t.due("29 DAYS", f.hired(29, 1), 0);
        t.due("30 DAYS", f.hired(30, 1), 1);
        t.due("DAY 30 is not among 30", forced(ONE, "go 1 if day = 30").hired(30, 1), 0);
        t.due("1 DAY", Checks.made(ONE).hired(1, 1), 1);
        f = forced(SIX, ONE_A_DAY);
        t.due("5 DAYS, one on each", f.hired(5, 1), 5);
        t.due("all CAN go, asked ahead of it", f.oneRemark(0), 6);
        t.due("1 DAY behind that", f.hired(1, 1), 1);
        t.says(25, "-2 without these, or a FORD.");
        for (int n : new int[] {0, 31, -1, LEAST, GREATEST}) {
            refusedEach("hired(" + n + ", 0)", x -> x.hired(n, 0), -2);
            refusedEach("hired(" + n + ", 1)", x -> x.hired(n, 1), -2);
        }
        whats("hired(1, ..)", (x, what) -> x.hired(1, what), 1, -2);
        whats("hired(30, ..)", (x, what) -> x.hired(30, what), 1, -2);
        changesNothing("hired", x -> x.hired(30, 0) + x.hired(1, 1));
    }

    private static void hiredBest() {
        t.says(25, "what 0: who (NONE: nobody), 1: how many.");
        RankFord f = Checks.made("ford 60 0");
        t.due("who, of nobody", f.hired(1, 0), NONE);
        t.due("how many, of nobody", f.hired(1, 1), 0);
        t.due("who, of six who are over", allOver().hired(30, 0), NONE);
        t.due("how many, of six who are over", allOver().hired(30, 1), 6);
        t.due("how many, of six", Checks.made(SIX).hired(1, 1), 6);
        t.says(25, "the PERSON whose FEE were best 0 from now on, or nobody's, so that most are on SIDE 1 then; "
                + "of several nobody's, then the least");
        String poor = "ford 10 0;person 5 0 1;person 5 0 1;person 5 0 1;thinks 1 1 20;thinks 2 2 20;thinks 0 0 ";
        f = Checks.made(poor + "20");
        t.due("0, 1 or 2", f.hired(1, 0), 0);
        t.due("two of three", f.hired(1, 1), 2);
        f = Checks.made(poor + "0");
        t.due("1 or 2", f.hired(1, 0), 1);
        t.due("two of three", f.hired(1, 1), 2);
        f = Checks.made(poor.replace("person 5 0 1", "person 5 1 1") + "0");
        t.due("nobody's, as they have the FEE", f.hired(1, 0), NONE);
        t.due("two of three", f.hired(1, 1), 2);
        f = Checks.made("ford 10 0;person 5 0 1;person 5 0 1;person 60 0 1;thinks 0 0 20");
        t.due("2 alone, whom 0 hires then", f.hired(1, 0), 2);
        t.due("two of three", f.hired(1, 1), 2);
        f = Checks.made("ford 10 0" + ";person 5 0 1".repeat(5) + ";person 5 1 1;thinks 4 4 20;thinks 5 5 20");
        t.due("nobody's, as 5 has the FEE of 4", f.hired(1, 0), NONE);
        t.due("two of six", f.hired(1, 1), 2);
        f = forced(poor + "0", "go 1 if alone = 0 and fee = 0");
        t.due("a FEE of 0, as the RULE sees it", f.hired(1, 1), 2);
        f = forced(poor.replace(" 1;", " 2;") + "0", "go 1 if alone = 0 and fee = 1");
        t.due("and of nothing else", f.hired(1, 1), 0);
    }

    private static void rests() {
        t.says(26, "RESTS of two PEOPLE for n DAYS (1 to 20)");
        String porters = "ford 10 0;person 5 9 0;person 20 0 0;person 20 0 3;thinks 0 0 20";
        RankFord f = forced(porters, "go fee + 1 if day = 19 and person = 0 and alone = 0");
        t.due("19 DAYS: all rest", f.rests(1, 2, 19, 0), 25);
        t.due("20 DAYS: 1 asks 4", f.rests(1, 2, 20, 0), 5);
        f = forced(porters, "go fee + 1 if day = 0 and person = 0 and alone = 0");
        t.due("1 DAY: 1 asks 4", f.rests(1, 2, 1, 0), 5);
        t.says(26, "NONE without these (unlike).");
        for (int n : new int[] {0, 21, -1, LEAST, GREATEST}) {
            refusedEach("rests(0, 1, " + n + ", 0)", x -> x.rests(0, 1, n, 0), NONE);
        }
        for (int what : new int[] {-1, 3, LEAST, GREATEST}) {
            refusedEach("rests(0, 1, 1, " + what + ")", x -> x.rests(0, 1, 1, what), NONE);
        }
        for (int p : NOBODY) {
            refusedEach("rests(" + p + ", 0, 1, 0)", x -> x.rests(p, 0, 1, 0), NONE);
            refusedEach("rests(0, " + p + ", 1, 0)", x -> x.rests(0, p, 1, 0), NONE);
        }
        refusedEach("rests(0, 0, 1, 0)", x -> x.rests(0, 0, 1, 0), NONE);
        t.refused("rests(0, 1, 1, 0) at a FORD of nobody", States::nobody, x -> x.rests(0, 1, 1, 0), NONE);
        t.refused("rests(0, 1, 1, 0) without a FORD", States::fordless, x -> x.rests(0, 1, 1, 0), NONE);
        changesNothing("rests", x -> x.rests(0, 1, 20, 0) + x.rests(1, 0, 1, 2));
    }

    private static void restsAre(String of, RankFord f, int many, int first, int second) {
        t.due("rests of " + of, f.rests(1, 2, 1, 0), many);
        t.due("first FEE of " + of, f.rests(1, 2, 1, 1), first);
        t.due("second FEE of " + of, f.rests(1, 2, 1, 2), second);
    }

    private static void restsFees() {
        t.says(26, "each asks a FEE of 0 to 4 from now on, all else as it is");
        String porters = "ford 10 0;person 5 9 0;person 20 0 0;person 20 0 3;thinks 0 0 20";
        restsAre("who is never hired", forced(porters, "go 1 if alone = 1"), 25, 0, 0);
        restsAre("who is hired if they ask most", forced(porters, "go fee + 1 if person = 0"), 5, 4, 0);
        restsAre("who has 4 to give", forced(porters.replace("5 9 0", "5 4 0"), "go fee + 1 if person = 0"), 5, 4, 0);
        // 1 asks 3, as 0 has no more; 2 is hired for nothing else than 4, which 0 has not
        restsAre("who has 3 to give", forced(porters.replace("5 9 0", "5 3 0"), "go fee + 1 if person = 0"), 5, 3, 0);
        restsAre("who is never hired, and has some", forced(porters.replace("20 0", "20 5"), "go 1 if alone = 1"), 25, 0, 0);
        t.says(26, "twos of which neither would have more by another one");
        // who asks 0 is hired by 0, who has nothing; else 1 hires 0 for 3, or 2 for less
        restsAre("whom 0 is best to be", Checks.made("ford 10 0;person 0 0 3;person 0 9 2;person 60 0 2;thinks 0 0 20;thinks 1 1 20"),
                5, 0, 0);
        restsAre("who is hired if they ask least", Checks.made(porters), 3, 0, 0);
        restsAre("2 alone is hired, for 4", forced(porters, "go 1 if person = 0 and with = 2"), 5, 0, 4);
        t.says(26, "FEES of the first (-2: there is none)");
        RankFord f = Checks.made("ford 10 0;person 20 1 3;person 20 8 3;person 20 8 1;person 20 0 4;thinks 2 2 20");
        Checks.rule(f, "go 9 - fee if alone = 0");
        f.force(0);
        t.due("none", f.rests(3, 2, 1, 0), 0);
        t.due("none", f.rests(3, 2, 1, 1), -2);
        t.due("none", f.rests(3, 2, 1, 2), -2);
    }

    private static int priceOf(int height, int purse, int otherFee) {
        return Checks.made("ford 10 0;person " + height + " " + purse + " 0;person 20 0 5;person 20 0 " + otherFee
                + ";thinks 0 0 20").price(1, 0);
    }

    private static void price() {
        t.says(27, "NONE without these (unlike ones on SIDE 0, the second of whom CAN not go alone).");
        t.due("10 by 10 alone", priceOf(10, 9, 9), NONE);
        t.due("10 by 9 alone", priceOf(9, 9, 9), 9);
        RankFord f = Checks.made("ford 10 0;person 5 9 0;person 20 0 0;person 20 0 0;thinks 0 0 20");
        t.due("0 by 1, who CAN", f.price(0, 1), NONE);
        f.cross(2, 2);
        t.due("2 on SIDE 1", f.price(2, 0), NONE);
        f.cross(0, 1);
        t.due("both on SIDE 1", f.price(1, 0), NONE);
        f.cross(1, 1);
        t.due("0 on SIDE 1", f.price(1, 0), NONE);
        for (int p : NOBODY) {
            refusedEach("price(" + p + ", 0)", x -> x.price(p, 0), NONE);
            refusedEach("price(0, " + p + ")", x -> x.price(0, p), NONE);
        }
        t.due("themselves", Checks.made("ford 1 0;person 0 0 0").price(0, 0), NONE);
        t.refused("price(0, 1), who is on SIDE 1", States::some, x -> x.price(0, 1), NONE);
        t.refused("price(0, 0)", States::full, x -> x.price(0, 0), NONE);
        t.refused("price(0, 1) at a FORD of nobody", States::nobody, x -> x.price(0, 1), NONE);
        t.refused("price(0, 1) without a FORD", States::fordless, x -> x.price(0, 1), NONE);
        changesNothing("price", x -> x.price(2, 0) + x.price(0, 2) + x.price(1, 0));
        t.says(16, "(By what is asked nothing changes; DAYS go on by the RULE IN FORCE.)");
        t.changesNothing("price that is told", AskEdgeTests::priced, x -> x.price(2, 0));
    }

    private static RankFord priced() {
        RankFord f = Checks.made("ford 10 0;person 5 9 0;person 20 0 5;person 20 0 7;thinks 0 0 20");
        f.flood(11);
        f.image(0);
        return f;
    }

    private static void priceFees() {
        t.says(27, "the greatest FEE, 0 to 9, of the first one, in place of theirs");
        t.due("9 of 99", priceOf(5, 99, 9), 9);
        t.due("9 of 99, and nobody else", Checks.made("ford 10 0;person 5 99 0;person 20 0 5;thinks 0 0 20").price(1, 0), 9);
        t.due("9 of 9", priceOf(5, 9, 9), 9);
        t.due("8 of 8", priceOf(5, 8, 9), 8);
        t.due("0 of 0", priceOf(5, 0, 9), 0);
        t.due("as much as 2 asks", priceOf(5, 9, 4), 4);
        t.due("0, as 2 does", priceOf(5, 9, 0), 0);
        t.says(27, "PRICE; -2: at none");
        RankFord f = Checks.made("ford 10 0;person 5 9 0;person 20 0 0;person 20 0 5;thinks 0 0 20");
        t.due("1, who is ahead, asks nothing", f.price(2, 0), -2);
        f.flood(16);
        t.due("it is 6 deep for 0", f.price(1, 0), -2);
        f.flood(15);
        t.due("it is 5 deep for 0", f.price(1, 0), 5);
        t.says(27, "at which the second one, who CAN not go alone now, hires them on this DAY, as it goes.");
        f = Checks.made("ford 10 0;person 20 0 0;person 5 9 0;person 20 0 0;thinks 1 1 20");
        t.due("0 is gone ahead of 1", f.price(0, 1), -2);
        t.due("2 is still here", f.price(2, 1), 9);
        f = forced("ford 10 0;person 20 0 0;person 5 9 0;person 20 0 0;thinks 1 1 20", "go 1 if person = 1;go 1 if with = 1");
        t.due("0 has hired 1 ahead", f.price(0, 1), -2);
        t.due("0 has hired 1 ahead", f.price(2, 1), -2);
        f = forced("ford 10 0;person 5 9 0;person 20 0 0;thinks 0 0 20", "go 1 if day = 1");
        t.due("not on DAY 0", f.price(1, 0), -2);
        f.day();
        t.due("on DAY 1", f.price(1, 0), 9);
    }
}
