import java.nio.charset.StandardCharsets;
import java.util.Random;

/** Runs of calls drawn from fixed seeds, on the program and on the oracle; every answer must be the same. */
public final class OracleTests {
    private static final String[] WORDS = {"person", "with", "alone", "depth", "height", "purse", "fee", "thinks",
        "self", "here", "over", "day"};
    private static final String[] SIGNS = {"<", "<=", "=", ">=", ">"};
    private static final String[] SUMS = {"+", "-", "*", "/", "%"};

    private final Random random;
    private final RankFord program = new RankFord();
    private final Oracle oracle = new Oracle();
    private int calls;

    private OracleTests(long seed) {
        random = new Random(seed);
    }

    public static void main(String[] args) {
        Checks all = new Checks();
        int answers = 0;
        int faults = 0;
        for (int seed = 1; seed <= 1500; seed++) {
            OracleTests run = new OracleTests(seed);
            run.run();
            answers += run.calls;
        }
        for (int seed = 1; seed <= 30000; seed++) {
            OracleTests run = new OracleTests(1000000L + seed);
            run.tell(run.random.nextBoolean());
            faults++;
        }
        all.due(0, "runs", answers > 100000 && faults == 30000 ? 1 : 0, 1);
        all.finish("OracleTests, " + answers + " calls, " + faults + " texts");
    }

    private int upTo(int n) {
        return random.nextInt(n + 1);
    }

    private void same(String call, int got, int want) {
        calls++;
        if (got != want) {
            System.out.println("call " + calls + ": " + call + " answered " + got + ", the oracle " + want);
            System.exit(1);
        }
    }

    private void run() {
        for (int i = 0; i < 3; i++) {
            call();
        }
        for (int i = upTo(4); i > 0; i--) {
            tell(false);
        }
        tell(true);
        while (calls < 400) {
            int kind = upTo(99);
            if (kind == 0) {
                tell(true);
            } else if (kind <= 2) {
                tell(false);
            } else {
                call();
            }
        }
    }

    private void tell(boolean ford) {
        String text = ford ? fordText() : ruleText();
        if (upTo(5) == 0) {
            text = spoilt(text);
        }
        put(text);
        if (ford) {
            same("ford() of " + text, program.ford(), oracle.ford());
        } else {
            same("rule() of " + text, program.rule(), oracle.rule());
        }
        same("count(11)", program.count(11), oracle.count(11));
    }

    private void put(String text) {
        byte[] bytes = text.getBytes(StandardCharsets.ISO_8859_1);
        same("end(0)", program.end(0), oracle.end(0));
        for (int at = 0; at < bytes.length; at += 20) {
            feed(Checks.four(bytes, at), Checks.four(bytes, at + 4), Checks.four(bytes, at + 8),
                    Checks.four(bytes, at + 12), Checks.four(bytes, at + 16));
        }
        same("end", program.end(bytes.length), oracle.end(bytes.length));
    }

    private void feed(int a, int b, int c, int d, int e) {
        same("feed", program.feed(a, b, c, d, e), oracle.feed(a, b, c, d, e));
    }

    private String spoilt(String text) {
        StringBuilder b = new StringBuilder(text);
        for (int i = upTo(2); i >= 0; i--) {
            int at = upTo(b.length());
            switch (upTo(3)) {
                case 0:
                    b.insert(at, "; \u00e9[]<=>not and9or1if".charAt(upTo(20)));
                    break;
                case 1:
                    b.setLength(at);
                    break;
                case 2:
                    b.delete(at, Math.min(b.length(), at + 1 + upTo(3)));
                    break;
                default:
                    b.insert(at, new String[] {"99999", "100000", " go ", ";ford 1 1", ";person 1 1 1", "not ", "[", "]", ";", " 61 "}[upTo(9)]);
                    break;
            }
        }
        return b.toString();
    }

    private String gap() {
        return upTo(6) == 0 ? "   ".substring(upTo(2)) : " ";
    }

    private String fordText() {
        if (upTo(12) == 0) {
            return tallFord();
        }
        return upTo(2) == 0 ? anyFord() : hiringFord();
    }

    /** All numbers up to the greatest that can be told, and now and then one more. */
    private String tallFord() {
        StringBuilder b = new StringBuilder();
        b.append("ford ").append(52 + upTo(8)).append(" ").append(upTo(5));
        int people = 1 + upTo(5);
        for (int p = 0; p < people; p++) {
            b.append(";person ").append(54 + upTo(upTo(30) == 0 ? 7 : 6)).append(" ").append(upTo(99)).append(" ").append(upTo(9));
        }
        for (int i = upTo(8); i > 0; i--) {
            b.append(";thinks ").append(upTo(people - 1)).append(" ").append(upTo(people - 1)).append(" ").append(upTo(20));
        }
        return b.toString();
    }

    /** Too deep for most alone, but not with somebody whom they look down on. */
    private String hiringFord() {
        StringBuilder b = new StringBuilder();
        int deep = 8 + upTo(6);
        int people = 2 + upTo(4);
        b.append("ford ").append(deep).append(" ").append(upTo(3));
        for (int p = 0; p < people; p++) {
            b.append(";person ").append(deep - 6 + upTo(upTo(2) == 0 ? 8 : 5)).append(" ").append(upTo(9)).append(" ").append(upTo(4));
        }
        for (int p = 0; p < people; p++) {
            b.append(";thinks ").append(p).append(" ").append(p).append(" ").append(12 + upTo(8));
        }
        for (int i = upTo(10); i > 0; i--) {
            b.append(";thinks ").append(upTo(people - 1)).append(" ").append(upTo(people - 1)).append(" ").append(upTo(20));
        }
        return b.toString();
    }

    private String anyFord() {
        StringBuilder b = new StringBuilder();
        b.append("ford").append(gap()).append(upTo(upTo(3) == 0 ? 62 : 20)).append(" ").append(upTo(upTo(20) == 0 ? 6 : 3));
        int people = upTo(30) == 0 ? 7 : upTo(6);
        for (int p = 0; p < people; p++) {
            b.append(";person").append(gap()).append(upTo(24)).append(gap()).append(upTo(upTo(1) == 0 ? 9 : 99)).append(" ").append(upTo(upTo(1) == 0 ? 3 : 9));
        }
        for (int i = upTo(22); i > 0 && people > 0 && b.length() < 380; i--) {
            b.append(";thinks ").append(upTo(people - 1)).append(" ").append(upTo(people - 1)).append(gap()).append(upTo(upTo(40) == 0 ? 21 : 20));
        }
        return b.toString();
    }

    private String ruleText() {
        return upTo(12) == 0 ? shortClauses() : anyRule();
    }

    /** About as many CLAUSES, and now and then VALUES, as a RULE can have. */
    private String shortClauses() {
        StringBuilder b = new StringBuilder();
        for (int i = 10 + upTo(3); i > 0; i--) {
            b.append("go ").append(WORDS[upTo(11)]);
            if (upTo(8) > 0) {
                b.append(" if ").append(upTo(5) == 0 ? "not " : "").append(WORDS[upTo(11)]).append(SIGNS[upTo(4)]).append(upTo(9));
            }
            if (upTo(3) == 0) {
                b.append("+1");
            }
            b.append(i > 1 ? ";" : "");
        }
        if (b.length() > 400) {
            b.setLength(400);
        }
        return b.toString();
    }

    private String anyRule() {
        StringBuilder b = new StringBuilder();
        int clauses = upTo(25) == 0 ? 10 + upTo(4) : 1 + upTo(3);
        int size = upTo(8) == 0 ? 9 : 3;
        for (int i = 0; i < clauses; i++) {
            b.append(i == 0 ? "" : ";").append("go ");
            sum(b, upTo(size));
            if (upTo(3) > 0) {
                b.append(" if ");
                test(b, upTo(size), 0);
            }
        }
        if (b.length() > 400) {
            b.setLength(400);
        }
        return b.toString();
    }

    private void sum(StringBuilder b, int more) {
        value(b);
        for (int i = 0; i < more; i++) {
            b.append(gap()).append(SUMS[upTo(4)]).append(gap());
            value(b);
        }
    }

    private void value(StringBuilder b) {
        if (upTo(2) == 0) {
            b.append(upTo(upTo(9) == 0 ? 100100 : 12));
        } else {
            b.append(WORDS[upTo(11)]);
        }
    }

    private void test(StringBuilder b, int more, int nested) {
        fact(b, nested);
        for (int i = 0; i < more; i++) {
            b.append(upTo(1) == 0 ? " or " : " and ");
            fact(b, nested);
        }
    }

    private void fact(StringBuilder b, int nested) {
        int kind = upTo(nested > 12 ? 3 : 7);
        int deepen = upTo(30) == 0 ? 4 : 0;
        if (kind == 7 || kind == 5) {
            for (int i = 0; i <= deepen; i++) {
                b.append("not ");
            }
            fact(b, nested + 1 + deepen);
        } else if (kind == 6) {
            b.append("[".repeat(1 + deepen));
            test(b, upTo(2), nested + 1 + deepen);
            b.append("]".repeat(1 + deepen));
        } else {
            sum(b, upTo(4) / 3);
            b.append(gap()).append(SIGNS[upTo(4)]).append(gap());
            sum(b, upTo(4) / 3);
        }
    }

    /** A number that is now and then one too small or too great, or far off. */
    private int about(int least, int most) {
        if (upTo(80) == 0) {
            return new int[] {Integer.MIN_VALUE, Integer.MAX_VALUE, 64, -64, 32, 1 << 16}[upTo(5)];
        }
        return upTo(25) == 0 ? least - 1 - upTo(1) : upTo(25) == 0 ? most + 1 + upTo(1) : least + upTo(most - least);
    }

    private int anyone() {
        return about(0, Math.max(0, oracle.count(2) - 1));
    }

    private void call() {
        int a = anyone();
        int b = anyone();
        int n;
        int w;
        switch (upTo(33)) {
            case 0:
                n = about(0, 400);
                same("end(" + n + ")", program.end(n), oracle.end(n));
                break;
            case 1:
                feed(random.nextInt(), random.nextInt(), random.nextInt(), random.nextInt(), random.nextInt());
                break;
            case 2:
                n = about(-1, oracle.count(3) - 1);
                same("force(" + n + ")", program.force(n), oracle.force(n));
                break;
            case 3:
                w = about(0, 3);
                same("person(" + a + ", " + w + ")", program.person(a, w), oracle.person(a, w));
                break;
            case 4:
                same("thinks(" + a + ", " + b + ")", program.thinks(a, b), oracle.thinks(a, b));
                break;
            case 5:
                same("depth(" + a + ", " + b + ")", program.depth(a, b), oracle.depth(a, b));
                break;
            case 6:
                same("day()", program.day(), oracle.day());
                break;
            case 7:
            case 8:
                b = upTo(1) == 0 ? a : b;
                same("cross(" + a + ", " + b + ")", program.cross(a, b), oracle.cross(a, b));
                break;
            case 9:
            case 10:
                n = about(0, 20);
                b = upTo(1) == 0 ? a : b;
                same("remark(" + a + ", " + b + ", " + n + ")", program.remark(a, b, n), oracle.remark(a, b, n));
                break;
            case 11:
                n = upTo(4) == 0 ? about(1, 99) : about(1, 6);
                same("pay(" + a + ", " + b + ", " + n + ")", program.pay(a, b, n), oracle.pay(a, b, n));
                break;
            case 12:
                n = upTo(4) == 0 ? about(0, 60) : about(0, 24);
                same("flood(" + n + ")", program.flood(n), oracle.flood(n));
                break;
            case 13:
                for (int i = upTo(upTo(20) == 0 ? 22 : 4); i >= 0; i--) {
                    same("undo()", program.undo(), oracle.undo());
                }
                break;
            case 33:
                n = about(0, 3);
                if (upTo(3) == 0) {
                    same("back(" + n + ")", program.back(n), oracle.back(n));
                } else {
                    same("image(" + n + ")", program.image(n), oracle.image(n));
                }
                break;
            default:
                ask(a, b);
                break;
        }
        for (int what = -1; what <= 12; what++) {
            int got = program.count(what);
            if (got != oracle.count(what)) {
                same("count(" + what + ")", got, oracle.count(what));
            }
        }
    }

    private void ask(int a, int b) {
        int n;
        int m;
        int w;
        switch (upTo(17)) {
            case 0:
                n = about(0, 60);
                w = about(0, 2);
                same("ahead(" + a + ", " + n + ", " + w + ")", program.ahead(a, n, w), oracle.ahead(a, n, w));
                break;
            case 1:
                same("over()", program.over(), oracle.over());
                break;
            case 2:
                if (upTo(9) == 0 || oracle.count(2) < 6) {
                    w = about(0, 7);
                    same("most(" + w + ")", program.most(w), oracle.most(w));
                }
                break;
            case 3:
                w = about(0, 2);
                same("fewest(" + w + ")", program.fewest(w), oracle.fewest(w));
                break;
            case 4:
                w = about(0, 1);
                same("ring(" + w + ")", program.ring(w), oracle.ring(w));
                break;
            case 5:
                w = about(0, 2);
                same("oneRemark(" + w + ")", program.oneRemark(w), oracle.oneRemark(w));
                break;
            case 6:
                same("rise(" + a + ")", program.rise(a), oracle.rise(a));
                break;
            case 7:
                same("fair()", program.fair(), oracle.fair());
                break;
            case 8:
                same("self(" + a + ", " + b + ")", program.self(a, b), oracle.self(a, b));
                break;
            case 9:
                n = about(1, 30);
                w = about(0, 1);
                same("hired(" + n + ", " + w + ")", program.hired(n, w), oracle.hired(n, w));
                break;
            case 10:
                n = about(1, 20);
                w = about(0, 2);
                same("rests(" + a + ", " + b + ", " + n + ", " + w + ")", program.rests(a, b, n, w), oracle.rests(a, b, n, w));
                break;
            case 11:
                same("price(" + a + ", " + b + ")", program.price(a, b), oracle.price(a, b));
                break;
            case 12:
            case 13:
                n = upTo(1) == 0 ? about(-1, 60) : about(0, 5);
                w = about(0, 1);
                same("note(" + n + ", " + a + ", " + w + ")", program.note(n, a, w), oracle.note(n, a, w));
                break;
            case 14:
                w = about(0, 1);
                same("ruled(" + w + ")", program.ruled(w), oracle.ruled(w));
                break;
            case 15:
                w = about(0, 1);
                same("look(" + w + ")", program.look(w), oracle.look(w));
                break;
            case 16:
                n = upTo(3) == 0 ? random.nextInt() : upTo(1000);
                same("seed(" + n + ")", program.seed(n), oracle.seed(n));
                break;
            default:
                m = about(1, 10);
                n = about(1, 60);
                w = about(0, 1);
                int p = about(0, 100);
                same("fairs(" + m + ", " + n + ", " + p + ", " + w + ")", program.fairs(m, n, p, w), oracle.fairs(m, n, p, w));
                break;
        }
    }
}
