import java.util.function.ToIntFunction;

/** Boundary cases of promises 7 to 15: what is seen of PEOPLE, and ACTS. */
public final class ActEdgeTests {
    private static final int NONE = RankFord.NONE;
    private static final int LEAST = Integer.MIN_VALUE;
    private static final int GREATEST = Integer.MAX_VALUE;
    /** Numbers of nobody at a FORD of three. */
    private static final int[] NOBODY = {-1, 3, 6, LEAST, GREATEST};
    /** All six CAN go alone, and with each other; each has 9 and asks for their number. */
    private static final String SIX = "ford 0 0;person 0 9 0;person 0 9 1;person 0 9 2;person 0 9 3;person 0 9 4;person 0 9 5";

    private static Edges t;

    public static void main(String[] args) {
        t = new Edges("ActEdgeTests", args);
        person();
        thinks();
        depth();
        day();
        dayOfNobodyAndOfAll();
        dayByNumbers();
        dayByRule();
        dayByFirstClause();
        dayWithoutRule();
        pride();
        purses();
        lastDay();
        cross();
        canAlone();
        canWith();
        remark();
        pay();
        flood();
        undo();
        undoRound();
        undoOfEach();
        t.finish(7, 15);
    }

    private static void refusedOfThree(String call, ToIntFunction<RankFord> asked) {
        t.refused(call, States::some, asked, NONE);
    }

    private static void person() {
        t.says(7, "Of a PERSON what 0: HEIGHT, 1: PURSE, 2: FEE, 3: SIDE.");
        RankFord f = Checks.made(States.THREE);
        int[] last = {7, 5, 3, 0};
        for (int what = 0; what <= 3; what++) {
            t.due("person(2, " + what + ")", f.person(2, what), last[what]);
        }
        t.due("person(0, 0)", f.person(0, 0), 9);
        t.due("person(5, 2)", Checks.made(SIX).person(5, 2), 5);
        f.cross(0, 0);
        t.due("SIDE", f.person(0, 3), 1);
        t.changesNothing("person", States::some, x -> x.person(2, 3));
        t.says(7, "NONE without these.");
        for (int p : NOBODY) {
            refusedOfThree("person(" + p + ", 0)", x -> x.person(p, 0));
        }
        for (int what : new int[] {-1, 4, LEAST, GREATEST}) {
            refusedOfThree("person(0, " + what + ")", x -> x.person(0, what));
        }
        t.due("person(6, 0) of six", Checks.made(SIX).person(6, 0), NONE);
        t.refused("person(0, 0) at a FORD of nobody", States::nobody, x -> x.person(0, 0), NONE);
        t.refused("person(0, 0) without a FORD", States::fordless, x -> x.person(0, 0), NONE);
    }

    private static void thinks() {
        t.says(8, "What a PERSON THINKS of another one (or themselves)");
        RankFord f = Checks.made("ford 0 0;person 0 0 0;person 0 0 0;thinks 0 1 20;thinks 1 0 0;thinks 1 1 19");
        t.due("thinks(0, 0)", f.thinks(0, 0), 10);
        t.due("thinks(0, 1)", f.thinks(0, 1), 20);
        t.due("thinks(1, 0)", f.thinks(1, 0), 0);
        t.due("thinks(1, 1)", f.thinks(1, 1), 19);
        t.due("thinks(5, 5) of six", Checks.made(SIX + ";thinks 5 5 3").thinks(5, 5), 3);
        t.changesNothing("thinks", States::some, x -> x.thinks(2, 1));
        t.says(8, "NONE without these.");
        for (int p : NOBODY) {
            refusedOfThree("thinks(" + p + ", 0)", x -> x.thinks(p, 0));
            refusedOfThree("thinks(0, " + p + ")", x -> x.thinks(0, p));
        }
        t.refused("thinks(0, 0) at a FORD of nobody", States::nobody, x -> x.thinks(0, 0), NONE);
        t.refused("thinks(0, 0) without a FORD", States::fordless, x -> x.thinks(0, 0), NONE);
    }

    private static int depthOf(int deep, int thinks, int self) {
        return Checks.made("ford " + deep + " 0;person 0 0 0;person 0 0 0;thinks 0 1 " + thinks + ";thinks 0 0 " + self).depth(0, 1);
    }

    private static void depth() {
        t.says(9, "DEEP, and what they THINK of that one, less what they THINK of themselves, 0 at least");
        t.due("5 + 6 - 10", depthOf(5, 6, 10), 1);
        t.due("5 + 5 - 10", depthOf(5, 5, 10), 0);
        t.due("5 + 4 - 10", depthOf(5, 4, 10), 0);
        t.due("0 + 0 - 20", depthOf(0, 0, 20), 0);
        t.due("60 + 20 - 0", depthOf(60, 20, 0), 80);
        t.due("0 + 0 - 0", depthOf(0, 0, 0), 0);
        t.says(9, "alone: DEEP.");
        for (int deep : new int[] {0, 60}) {
            RankFord f = Checks.made("ford " + deep + " 0;person 0 0 0;person 0 0 0;thinks 0 0 20;thinks 1 1 0");
            t.due("depth(0, 0) of " + deep, f.depth(0, 0), deep);
            t.due("depth(1, 1) of " + deep, f.depth(1, 1), deep);
        }
        t.changesNothing("depth", States::some, x -> x.depth(2, 1));
        t.says(9, "NONE without these.");
        for (int p : NOBODY) {
            refusedOfThree("depth(" + p + ", 0)", x -> x.depth(p, 0));
            refusedOfThree("depth(0, " + p + ")", x -> x.depth(0, p));
            refusedOfThree("depth(" + p + ", " + p + ")", x -> x.depth(p, p));
        }
        t.refused("depth(0, 0) at a FORD of nobody", States::nobody, x -> x.depth(0, 0), NONE);
        t.refused("depth(0, 0) without a FORD", States::fordless, x -> x.depth(0, 0), NONE);
    }

    private static void day() {
        t.says(10, "NONE, and nothing happens, without a FORD");
        t.refused("day() of a new object", RankFord::new, RankFord::day, NONE);
        t.refused("day() without a FORD", States::fordless, RankFord::day, NONE);
        RankFord f = new RankFord();
        Checks.ford(f, "ford 61 0");
        t.due("day() behind a wrong text", f.day(), NONE);
    }

    private static void dayOfNobodyAndOfAll() {
        t.says(10, "A DAY: how many go");
        RankFord f = Checks.made("ford 0 0");
        t.due("day() of nobody", f.day(), 0);
        t.due("DAY", f.count(5), 1);
        t.due("ACTS", f.count(9), 1);
        f = Checks.made(SIX);
        t.due("day() of six", f.day(), 6);
        t.due("who is over", f.count(6), 63);
        t.due("day() when all are over", f.day(), 0);
        t.due("who is over", f.count(6), 63);
        t.due("DAY", f.count(5), 2);
        f = Checks.made("ford 1 0;person 0 0 0;person 1 0 0");
        t.due("day() of one", f.day(), 1);
        t.due("day() of who stays", f.day(), 0);
        f = Checks.made("ford 10 0;person 0 0 0;person 0 0 0;thinks 0 0 20;thinks 1 1 20");
        t.due("day() of a two", f.day(), 2);
    }

    private static void dayByNumbers() {
        t.says(10, "PEOPLE by numbers, who are on SIDE 0 then, each by how all is then");
        RankFord f = Checks.made(SIX);
        Checks.rule(f, "go 1 if over = person and alone = 1");
        f.force(0);
        t.due("each behind the one ahead", f.day(), 6);
        f = Checks.made(SIX);
        Checks.rule(f, "go 1 if here + person = 6 and alone = 1");
        f.force(0);
        t.due("one fewer is here for each", f.day(), 6);
        f = Checks.made(SIX);
        Checks.rule(f, "go 1 if alone = 0");
        f.force(0);
        f.day();
        t.due("who was hired goes no more: PURSE of 0", f.person(0, 1), 8);
        t.due("PURSE of 1", f.person(1, 1), 10);
        t.due("PURSE of 4", f.person(4, 1), 4);
        t.due("PURSE of 5", f.person(5, 1), 14);
        f = Checks.made(SIX);
        f.cross(0, 0);
        t.due("0 is over and stays there", f.day(), 5);
        t.due("who is over", f.count(6), 63);
    }

    /** Who is over behind a DAY of SIX by a RULE. */
    private static void six(String rule, int want) {
        RankFord f = Checks.made(SIX);
        Checks.rule(f, rule);
        f.force(0);
        f.day();
        t.due("who is over by '" + rule + "'", f.count(6), want);
    }

    private static void dayByRule() {
        t.says(10, "is greatest, if it is above 0");
        six("go 1", 63);
        six("go 0", 0);
        six("go 0 - 1", 0);
        six("go 1 - person", 1);
        six("go with - 4", 33);
        six("go 5 - with if person = 1", 3);
        six("go 6 - with if person = 1 and alone = 0", 3);
        t.says(10, "alone first, then the least");
        six("go 1 if person = 3", 8);
        six("go 1 if person = 3 and alone = 0", 9);
        six("go 2 - alone if person = 3", 9);
        six("go 1 if person = 3 and with > 3", 24);
        six("go 1 + with / 4 if person = 3", 24);
        six("go 1 + with / 5 if person = 5", 32);
        t.says(10, "they GO so (or stay)");
        six("go 1 if day > 0", 0);
        t.says(10, "of those they CAN go with now, and alone, if they CAN");
        RankFord f = Checks.made("ford 5 0;person 4 9 0;person 5 9 9;person 5 8 0;thinks 0 0 20;thinks 2 2 20");
        Checks.rule(f, "go 1 + alone if person = 0");
        Checks.rule(f, "go 1 + with if person = 0");
        f.force(0);
        f.day();
        t.due("0 CAN not alone, and hires 1 for all they have", f.count(6), 3);
        t.due("PURSE of 0", f.person(0, 1), 0);
        f.undo();
        f.pay(0, 2, 1);
        f.day();
        t.due("0 has not enough for 1, and hires 2", f.count(6), 5);
        f.undo();
        f.force(1);
        f.flood(6);
        f.day();
        t.due("too deep for 1, not for 2 with 0", f.count(6), 5);
    }

    private static void dayByFirstClause() {
        t.says(10, "the SUM of the RULE IN FORCE's first CLAUSE without a TEST, or whose TEST holds (0 without)");
        six("go 1 if 1 = 2", 0);
        six("go 1 if 1 = 2;go 1", 63);
        six("go 0 if 1 = 1;go 1", 0);
        six("go 0;go 1", 0);
        six("go 0 if person = 0;go 1 if person = 1 and alone = 1;go 0;go 9", 2);
        six("go 1 if 1 = 2" + ";go 1 if 1 = 2".repeat(11), 0);
        six("go 1 if 1 = 2" + ";go 1 if 1 = 2".repeat(10) + ";go 1 if 1 = 1", 63);
    }

    private static void dayWithoutRule() {
        t.says(10, "without a RULE alone, if they CAN, else with the one of least FEE, of several the least.");
        String hired = ";person 5 2 0;person 9 0 3;person 9 0 2;person 9 0 2;thinks 0 0 20;thinks 1 0 0;thinks 2 0 0;thinks 3 0 0";
        RankFord f = Checks.made("ford 5 0" + hired);
        f.day();
        t.due("alone, if DEEP is HEIGHT", f.person(0, 1), 2);
        f = Checks.made("ford 6 0" + hired);
        f.day();
        t.due("2, ahead of 3 who asks no more, and of 1 who does", f.person(2, 1), 2);
        f = Checks.made("ford 6 0" + hired.replace("person 5 2 0", "person 5 1 0"));
        t.due("0 has not the least FEE", f.day(), 3);
        t.due("0 stays", f.person(0, 3), 0);
        f = Checks.made("ford 6 0" + hired.replace("person 9 0 3", "person 9 0 0"));
        f.day();
        t.due("a FEE of 0", f.person(0, 1), 2);
        t.due("with 1, so all are over", f.count(6), 15);
        f = Checks.made("ford 10 0" + ";person 5 99 0".repeat(6) + ";thinks 2 0 0");
        t.due("nobody of six", f.day(), 0);
        f = Checks.made("ford 6 0;person 5 0 0;person 9 0 1");
        t.due("nobody they CAN go with", f.day(), 1);
    }

    private static void pride() {
        t.says(10, "each who went THINKS PRIDE more of themselves (20 at most)");
        int[][] cases = {{14, 5, 19}, {15, 5, 20}, {16, 5, 20}, {20, 5, 20}, {20, 0, 20}, {19, 1, 20}, {0, 0, 0}, {0, 5, 5}};
        for (int[] c : cases) {
            RankFord f = Checks.made("ford 0 " + c[1] + ";person 0 0 0;thinks 0 0 " + c[0]);
            f.day();
            t.due(c[0] + " and " + c[1], f.thinks(0, 0), c[2]);
        }
        RankFord f = Checks.made("ford 0 3" + ";person 0 0 0".repeat(6) + ";thinks 5 5 17;thinks 4 4 18");
        f.day();
        int[] six = {13, 13, 13, 13, 20, 20};
        for (int p = 0; p < 6; p++) {
            t.due("THINKS " + p + " of themselves", f.thinks(p, p), six[p]);
        }
        f = Checks.made("ford 10 5;person 0 0 0;person 0 0 0;thinks 0 0 20;thinks 1 1 20;thinks 0 1 10");
        f.remark(1, 1, 20);
        f.cross(0, 1);
        t.due("of a two", f.thinks(0, 0), 20);
        t.due("of a two", f.thinks(1, 1), 20);
        t.due("of others no more", f.thinks(0, 1), 10);
    }

    /** All the COINS there can be, 594, are far from 9999, which is looked at within the class. */
    private static void purses() {
        t.says(10, "who has the FEE out of the PURSE (9999 at most in a PURSE)");
        RankFord f = Checks.made("ford 0 0" + ";person 0 99 9".repeat(6));
        for (int p = 1; p < 5; p++) {
            t.due("pay(" + p + ", 0, 99)", f.pay(p, 0, 99), 0);
        }
        f.pay(5, 0, 90);
        t.due("PURSE of 0", f.person(0, 1), 99 * 5 + 90);
        t.due("the last 9, for a FEE", f.cross(5, 0), 1);
        t.due("PURSE of 0", f.person(0, 1), 594);
        t.due("PURSE of 5", f.person(5, 1), 0);
        t.due("nothing left for a FEE", f.cross(5, 0), NONE);
        RankFord.World world = new RankFord.World();
        world.begin(0, 0);
        world.add(0, 9990, 9);
        world.add(0, 20, 0);
        world.go(1, 0);
        t.due("9990 and 9", world.purse(0), 9999);
        world.go(1, 0);
        t.due("9999 and 9", world.purse(0), 9999);
        t.due("20 less 9 less 9", world.purse(1), 2);
    }

    /** DAY 999 lies behind 512 calls, where nothing is promised; the bound is kept there, too. */
    private static RankFord onLastDay() {
        RankFord f = States.some();
        for (int i = 0; i < 998; i++) {
            f.day();
        }
        return f;
    }

    private static void lastDay() {
        t.says(10, "An object is used for at most 512 calls after it has been made");
        RankFord f = Checks.made("ford 1 0;person 0 0 0");
        Checks.rule(f, "go 1 if day=490");
        f.force(0);
        for (int i = 0; i < 490; i++) {
            f.day();
        }
        t.due("flood(0), the 501st", f.flood(0), 1);
        t.due("day(), the 502nd", f.day(), 1);
        t.due("DAY", f.count(5), 491);
        t.says(10, "(999 at most by hand; DAYS that are asked go on beyond)");
        f = Checks.made("ford 1 0;person 0 0 0");
        for (int i = 0; i < 998; i++) {
            f.day();
        }
        t.due("day() on DAY 998", f.day(), 0);
        t.due("DAY", f.count(5), 999);
        f.flood(0);
        t.due("over()", f.over(), 1000);
        t.due("ahead", f.ahead(0, 1, 0), 1);
        t.says(10, "or on DAY 999.");
        t.due("day() on DAY 999", f.day(), NONE);
        t.due("DAY", f.count(5), 999);
        t.refused("day() on DAY 999", ActEdgeTests::onLastDay, RankFord::day, NONE);
    }

    private static void cross() {
        t.says(11, "CROSS (other: themselves, alone): 1 if they are on SIDE 1 then, else 0");
        RankFord f = Checks.made(SIX);
        t.due("cross(0, 0)", f.cross(0, 0), 1);
        t.due("cross(0, 0) back", f.cross(0, 0), 0);
        t.due("cross(5, 4)", f.cross(5, 4), 1);
        t.due("who is over", f.count(6), 48);
        t.due("cross(4, 5) back", f.cross(4, 5), 0);
        t.due("who is over", f.count(6), 0);
        t.due("DAY", f.count(5), 0);
        t.says(11, "NONE, and nothing happens, without these");
        for (int p : NOBODY) {
            refusedOfThree("cross(" + p + ", 0)", x -> x.cross(p, 0));
            refusedOfThree("cross(0, " + p + ")", x -> x.cross(0, p));
            refusedOfThree("cross(" + p + ", " + p + ")", x -> x.cross(p, p));
        }
        t.refused("cross(0, 0) at a FORD of nobody", States::nobody, x -> x.cross(0, 0), NONE);
        t.refused("cross(0, 0) without a FORD", States::fordless, x -> x.cross(0, 0), NONE);
        t.says(11, "or if they CAN not.");
        refusedOfThree("cross(0, 1), who is on SIDE 1", x -> x.cross(0, 1));
        refusedOfThree("cross(1, 1), too deep", x -> x.cross(1, 1));
        t.refused("cross(1, 1) of a full one, too deep", States::full, x -> x.cross(1, 1), NONE);
    }

    private static int alone(int deep, int height) {
        return Checks.made("ford " + deep + " 0;person " + height + " 0 9").cross(0, 0);
    }

    private static void canAlone() {
        t.says(11, "A PERSON CAN go alone, if DEPTH is not above their HEIGHT");
        t.due("10 by 10", alone(10, 10), 1);
        t.due("10 by 9", alone(10, 9), NONE);
        t.due("0 by 0", alone(0, 0), 1);
        t.due("1 by 0", alone(1, 0), NONE);
        t.due("60 by 60", alone(60, 60), 1);
        t.due("60 by 59", alone(60, 59), NONE);
    }

    /** It is 5 deep for 0 with 1, and 8 deep for 1 with 0. */
    private static int with(int height, int purse, int otherHeight, int fee) {
        return Checks.made("ford 10 0;person " + height + " " + purse + " 9;person " + otherHeight + " 0 " + fee
                + ";thinks 0 0 15;thinks 1 1 12").cross(0, 1);
    }

    private static void canWith() {
        t.says(11, "with another one on the same SIDE, if that is so for both (the other one's DEPTH is that with the PERSON)");
        t.due("5 by 5, 8 by 8", with(5, 0, 8, 0), 1);
        t.due("5 by 4", with(4, 0, 8, 0), NONE);
        t.due("8 by 7", with(5, 0, 7, 0), NONE);
        t.due("both lower", with(4, 0, 7, 0), NONE);
        RankFord f = Checks.made(SIX);
        f.cross(1, 1);
        t.due("on SIDE 0 with one on SIDE 1", f.cross(0, 1), NONE);
        t.due("on SIDE 1 with one on SIDE 0", f.cross(1, 0), NONE);
        f.cross(0, 0);
        t.due("both on SIDE 1", f.cross(0, 1), 0);
        t.says(11, "and their PURSE has that one's FEE");
        t.due("3 for 3", with(5, 3, 8, 3), 1);
        t.due("2 for 3", with(5, 2, 8, 3), NONE);
        t.due("9 for 9", with(5, 9, 8, 9), 1);
        t.due("8 for 9", with(5, 8, 8, 9), NONE);
        t.due("0 for 0", with(5, 0, 8, 0), 1);
    }

    private static void remark() {
        t.says(12, "REMARK (a PERSON THINKS another number, 0 to 20, of one, themselves too)");
        RankFord f = Checks.made(States.THREE);
        t.due("remark(0, 2, 0)", f.remark(0, 2, 0), 10);
        t.due("remark(0, 2, 20)", f.remark(0, 2, 20), 0);
        t.due("thinks(0, 2)", f.thinks(0, 2), 20);
        t.due("remark(2, 2, 20)", f.remark(2, 2, 20), 12);
        t.due("remark(2, 2, 19)", f.remark(2, 2, 19), 20);
        t.due("remark(2, 2, 1)", f.remark(2, 2, 1), 19);
        t.due("ACTS", f.count(9), 5);
        f = Checks.made(SIX);
        t.due("remark(5, 4, 9)", f.remark(5, 4, 9), 10);
        f.cross(0, 0);
        t.due("of one on the other SIDE", f.remark(0, 1, 3), 10);
        t.says(12, "NONE, and nothing happens, without these (another number).");
        refusedOfThree("remark(0, 0, -1)", x -> x.remark(0, 0, -1));
        refusedOfThree("remark(0, 0, 21)", x -> x.remark(0, 0, 21));
        refusedOfThree("remark(0, 1, the least)", x -> x.remark(0, 1, LEAST));
        refusedOfThree("remark(0, 1, the greatest)", x -> x.remark(0, 1, GREATEST));
        refusedOfThree("remark(2, 0, 4), as it is", x -> x.remark(2, 0, 4));
        refusedOfThree("remark(0, 0, 12), as it is", x -> x.remark(0, 0, 12));
        for (int p : NOBODY) {
            refusedOfThree("remark(" + p + ", 0, 5)", x -> x.remark(p, 0, 5));
            refusedOfThree("remark(0, " + p + ", 5)", x -> x.remark(0, p, 5));
        }
        t.refused("remark at a FORD of nobody", States::nobody, x -> x.remark(0, 0, 5), NONE);
        t.refused("remark without a FORD", States::fordless, x -> x.remark(0, 0, 5), NONE);
        t.refused("remark(0, 0, 20) of a full one, as it is", States::full, x -> x.remark(0, 0, 20), NONE);
    }

    private static void pay() {
        t.says(13, "PAY (a PERSON gives another one COINS, 1 to 99, that they have)");
        RankFord f = Checks.made("ford 0 0;person 0 99 0;person 0 2 0;person 0 1 0");
        t.due("pay(0, 1, 1)", f.pay(0, 1, 1), 98);
        t.due("pay(1, 0, 3), all they have", f.pay(1, 0, 3), 0);
        t.due("PURSE of 0", f.person(0, 1), 101);
        t.due("pay(0, 1, 99)", f.pay(0, 1, 99), 2);
        t.due("PURSE of 1", f.person(1, 1), 99);
        t.due("pay(2, 0, 1)", f.pay(2, 0, 1), 0);
        t.due("COINS in all", f.count(7), 102);
        f.cross(0, 0);
        t.due("to one on the other SIDE", f.pay(0, 1, 1), 2);
        t.says(13, "PAY: the first one's PURSE then; NONE, and nothing happens, without these (unlike).");
        t.due("pay(0, 1, 3) of 2", f.pay(0, 1, 3), NONE);
        t.due("pay(1, 0, 100) of 100", f.pay(1, 0, 100), NONE);
        t.due("pay(2, 1, 1) of 0", f.pay(2, 1, 1), NONE);
        refusedOfThree("pay(0, 1, 0)", x -> x.pay(0, 1, 0));
        refusedOfThree("pay(0, 1, -1)", x -> x.pay(0, 1, -1));
        refusedOfThree("pay(0, 1, the least)", x -> x.pay(0, 1, LEAST));
        refusedOfThree("pay(0, 1, the greatest)", x -> x.pay(0, 1, GREATEST));
        refusedOfThree("pay(0, 1, 30) of 29", x -> x.pay(0, 1, 30));
        refusedOfThree("pay(0, 0, 1)", x -> x.pay(0, 0, 1));
        for (int p : NOBODY) {
            refusedOfThree("pay(" + p + ", 0, 1)", x -> x.pay(p, 0, 1));
            refusedOfThree("pay(0, " + p + ", 1)", x -> x.pay(0, p, 1));
        }
        t.refused("pay at a FORD of nobody", States::nobody, x -> x.pay(0, 1, 1), NONE);
        t.refused("pay without a FORD", States::fordless, x -> x.pay(0, 1, 1), NONE);
    }

    private static void flood() {
        t.says(14, "FLOOD (DEEP is another number, 0 to 60)");
        RankFord f = Checks.made("ford 1 0");
        t.due("flood(0)", f.flood(0), 1);
        t.due("flood(60)", f.flood(60), 0);
        t.due("flood(59)", f.flood(59), 60);
        t.due("DEEP", f.count(0), 59);
        t.due("ACTS", f.count(9), 3);
        t.says(14, "NONE, and nothing happens, without these (another number), or a FORD.");
        refusedOfThree("flood(-1)", x -> x.flood(-1));
        refusedOfThree("flood(61)", x -> x.flood(61));
        refusedOfThree("flood(5), as it is", x -> x.flood(5));
        refusedOfThree("flood of the least", x -> x.flood(LEAST));
        refusedOfThree("flood of the greatest", x -> x.flood(GREATEST));
        t.refused("flood(9), as it is, at a FORD of nobody", States::nobody, x -> x.flood(9), NONE);
        t.refused("flood(1) without a FORD", States::fordless, x -> x.flood(1), NONE);
        t.refused("flood(1) of a new object", RankFord::new, x -> x.flood(1), NONE);
    }

    /** DEEP is i behind the i-th ACT. */
    private static RankFord floods(int acts) {
        RankFord f = Checks.made("ford 0 0");
        for (int i = 1; i <= acts; i++) {
            f.flood(i);
        }
        return f;
    }

    private static void undo() {
        t.says(15, "The last 20 can be UNDONE, the last first.");
        for (int acts : new int[] {0, 1, 19, 20, 21, 39, 40, 41, 60}) {
            RankFord f = floods(acts);
            int left = Math.min(acts, 20);
            t.due("ACTS of " + acts, f.count(9), left);
            for (int i = 1; i <= left; i++) {
                t.due("undo() " + i + " of " + acts, f.undo(), left - i);
                t.due("DEEP", f.count(0), acts - i);
            }
            t.due("one more of " + acts, f.undo(), NONE);
            t.due("DEEP", f.count(0), acts - left);
        }
        t.says(15, "NONE, and nothing happens: none can.");
        t.refused("undo() of a new object", RankFord::new, RankFord::undo, NONE);
        t.refused("undo() without a FORD", States::fordless, RankFord::undo, NONE);
        t.refused("undo() of all that was undone", ActEdgeTests::allUndone, RankFord::undo, NONE);
        t.refused("undo() behind a new FORD", ActEdgeTests::newFord, RankFord::undo, NONE);
        t.refused("undo() behind back()", ActEdgeTests::goneBack, RankFord::undo, NONE);
    }

    private static RankFord allUndone() {
        RankFord f = States.full();
        for (int i = 0; i < 20; i++) {
            f.undo();
        }
        return f;
    }

    private static RankFord newFord() {
        RankFord f = States.full();
        f.ford();
        return f;
    }

    private static RankFord goneBack() {
        RankFord f = States.full();
        f.back(2);
        return f;
    }

    private static void undoRound() {
        t.says(15, "The last ACT is UNDONE: how many more can be");
        RankFord f = floods(20);
        for (int i = 0; i < 5; i++) {
            f.undo();
        }
        t.due("15 and one", f.flood(60), 15);
        t.due("ACTS", f.count(9), 16);
        t.due("undo()", f.undo(), 15);
        t.due("DEEP", f.count(0), 15);
        for (int i = 0; i < 6; i++) {
            f.flood(40 + i);
        }
        t.due("15 and six: 20", f.count(9), 20);
        for (int i = 19; i >= 0; i--) {
            t.due("undo()", f.undo(), i);
        }
        t.due("the first of all can't be", f.count(0), 1);
        t.due("one more", f.undo(), NONE);
        f.flood(9);
        t.due("again one", f.undo(), 0);
        t.due("DEEP", f.count(0), 1);
    }

    private static void undone(String act, ToIntFunction<RankFord> asked) {
        RankFord f = States.some();
        t.due(act + " is taken", asked.applyAsInt(f) == NONE ? NONE : 0, 0);
        t.due("ACTS behind " + act, f.count(9), 7);
        t.due("undo of " + act, f.undo(), 6);
        t.sameAsTwin(act + " undone", f, States.some());
    }

    private static void undoOfEach() {
        t.says(15, "ACTS: a DAY; CROSS");
        undone("day", RankFord::day);
        undone("cross alone", x -> x.cross(0, 0));
        undone("cross with another one", x -> x.cross(0, 2));
        undone("remark", x -> x.remark(0, 1, 0));
        undone("remark of themselves", x -> x.remark(0, 0, 0));
        undone("pay", x -> x.pay(0, 1, 29));
        undone("flood", x -> x.flood(60));
        t.says(15, "The last ACT is UNDONE");
        RankFord f = States.some();
        f.flood(60);
        f.force(1);
        f.seed(3);
        f.note(1, 1, 1);
        f.image(3);
        t.due("what is no ACT", f.count(9), 7);
        f.undo();
        t.due("the RULE IN FORCE stays", f.count(4), 1);
        t.due("x stays", f.count(10), 3);
        t.due("NOTES stay", f.count(8), 3);
        t.due("DEEP", f.count(0), 5);
        f.back(3);
        t.due("an IMAGE stays", f.count(0), 60);
    }
}
