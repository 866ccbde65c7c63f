import java.nio.charset.StandardCharsets;

/** What the tests share: feeding texts, and counting answers that are not as due. */
final class Checks {
    private int wrong;
    private int checked;

    void due(int promise, String call, int got, int want) {
        checked++;
        if (got != want) {
            wrong++;
            if (wrong <= 50) {
                System.out.println("promise " + promise + ": " + call + " answered " + got + ", due is " + want);
            }
        }
    }

    void finish(String name) {
        System.out.println(name + ": " + checked + " answers, " + wrong + " not as due");
        if (wrong != 0 || checked == 0) {
            System.exit(1);
        }
    }

    /** Puts a text on an empty tape. */
    static void put(RankFord f, String text) {
        byte[] bytes = text.getBytes(StandardCharsets.ISO_8859_1);
        f.end(0);
        for (int at = 0; at < bytes.length; at += 20) {
            f.feed(four(bytes, at), four(bytes, at + 4), four(bytes, at + 8), four(bytes, at + 12), four(bytes, at + 16));
        }
        f.end(bytes.length);
    }

    static int four(byte[] bytes, int at) {
        int number = 0;
        for (int i = at; i < at + 4; i++) {
            number = number << 8 | (i < bytes.length ? bytes[i] & 255 : 0);
        }
        return number;
    }

    static int ford(RankFord f, String text) {
        put(f, text);
        return f.ford();
    }

    static int rule(RankFord f, String text) {
        put(f, text);
        return f.rule();
    }

    static RankFord made(String text) {
        RankFord f = new RankFord();
        ford(f, text);
        return f;
    }

    static int fault(int place, int why) {
        return -2 - (1 + 8 * place + why);
    }
}
