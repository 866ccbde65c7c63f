/** Objects in states in which calls are refused. */
final class States {
    static final String THREE = "ford 6 1;person 9 20 2;person 4 30 1;person 7 5 3;thinks 1 1 15;thinks 1 0 3;"
            + "thinks 0 1 8;thinks 2 2 12;thinks 2 1 9";

    private States() { }

    /** No FORD; a RULE, x, an IMAGE and a begun text all the same. */
    static RankFord fordless() {
        RankFord f = new RankFord();
        Checks.rule(f, "go 3");
        f.force(0);
        f.seed(77);
        f.image(1);
        beginText(f);
        return f;
    }

    /** A FORD that nobody is at. */
    static RankFord nobody() {
        RankFord f = Checks.made("ford 7 2");
        Checks.rule(f, "go 3");
        f.flood(9);
        f.day();
        f.seed(78);
        f.image(3);
        beginText(f);
        return f;
    }

    /** Some of everything. */
    static RankFord some() {
        RankFord f = Checks.made(THREE);
        Checks.rule(f, "go 5 - fee if person > 0;go 1 if day > 1");
        Checks.rule(f, "go 1 if day > 2 and alone = 1");
        f.force(0);
        f.day();
        f.image(0);
        f.note(0, 0, 1);
        f.note(60, 2, 0);
        f.remark(2, 0, 4);
        f.pay(1, 0, 7);
        f.image(2);
        f.cross(0, 0);
        f.cross(2, 2);
        f.flood(5);
        f.seed(12345);
        beginText(f);
        return f;
    }

    /** All that is bounded is full: RULES, NOTES, ACTS, IMAGES and the TAPE. */
    static RankFord full() {
        RankFord f = Checks.made("ford 6 1;person 9 99 2;person 4 30 9;thinks 1 1 15");
        for (int i = 0; i < 6; i++) {
            Checks.rule(f, "go 9 - day if with = " + i % 2);
        }
        f.force(5);
        for (int i = 0; i < 10; i++) {
            f.note(i, i % 2, i / 9);
        }
        for (int i = 0; i < 4; i++) {
            f.remark(0, 1, i);
            f.image(i);
        }
        for (int i = 0; i < 9; i++) {
            f.pay(0, 1, 1 + i);
            f.flood(15 - i);
        }
        f.cross(0, 0);
        f.remark(0, 0, 20);
        f.seed(Integer.MAX_VALUE);
        Checks.put(f, fullText());
        return f;
    }

    /** 400 bytes, and as many CLAUSES as they can have: 33. */
    static String fullText() {
        return "ford0 0" + ";person0 0 0".repeat(6) + ";thinks0 0 0".repeat(25) + ";thinks5 5 7" + " ".repeat(9);
    }

    private static void beginText(RankFord f) {
        Checks.put(f, "ford 7 3;person 1 2 ");
    }
}
