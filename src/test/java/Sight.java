import java.util.ArrayList;
import java.util.List;

/** All that can be seen of an object, at the cost of all that can be undone and of its tape. */
final class Sight {
    private final RankFord f;
    private final List<Integer> seen = new ArrayList<>();

    Sight(RankFord f) {
        this.f = f;
    }

    List<Integer> whole() {
        plainly();
        askedFor();
        byEachRule();
        undone();
        inImages();
        onTape();
        return seen;
    }

    private void see(int answer) {
        seen.add(answer);
    }

    private void plainly() {
        for (int what = 0; what <= 11; what++) {
            see(f.count(what));
        }
        people();
    }

    private void people() {
        int people = f.count(2);
        for (int p = 0; p < people; p++) {
            for (int what = 0; what <= 3; what++) {
                see(f.person(p, what));
            }
            for (int o = 0; o < people; o++) {
                see(f.thinks(p, o));
            }
        }
    }

    private void askedFor() {
        for (int what = 0; what <= 2; what++) {
            see(f.most(what));
            see(f.fewest(what));
            see(f.oneRemark(what));
        }
        for (int what = 0; what <= 1; what++) {
            see(f.ring(what));
            see(f.ruled(what));
            see(f.look(what));
            see(f.hired(2, what));
            see(f.fairs(2, 3, 60, what));
        }
        see(f.over());
        see(f.fair());
    }

    private void byEachRule() {
        int rules = f.count(3);
        int forced = f.count(4);
        for (int rule = RankFord.NONE; rule < rules; rule++) {
            see(f.force(rule));
            see(f.ahead(0, 3, 0));
            see(f.ahead(0, 3, 1));
        }
        see(f.force(forced));
    }

    private void undone() {
        for (int i = 0; i <= 20; i++) {
            see(f.undo());
            see(f.count(0));
            see(f.count(5));
            see(f.count(6));
            see(f.person(0, 1));
            see(f.thinks(0, 0));
            see(f.thinks(0, 1));
        }
    }

    private void inImages() {
        for (int k = 0; k <= 3; k++) {
            see(f.back(k));
            plainly();
            see(f.ruled(0));
            see(f.undo());
        }
    }

    /** What is left on it is the begin of a text, or a whole one. */
    private void onTape() {
        see(f.feed(0x39202020, 0x20202020, 0x20202020, 0x20202020, 0x20202020));
        see(f.ford());
        see(f.count(0));
        people();
    }
}
