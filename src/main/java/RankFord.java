import java.util.Arrays;

/** A ford, the people who would go over it, and what each of them thinks of each. */
public final class RankFord {
    public static final int NONE = -1;

    private static final int CROWD = 6;
    private static final int RULES = 6;
    private static final int IMAGES = 4;
    private static final int LAST_DAY = 999;
    private static final int DEEPEST = 60;
    private static final int HIGHEST_THOUGHT = 20;
    private static final int FARTHEST = 60;

    private final Tape tape = new Tape();
    private final FordReader fordReader = new FordReader();
    private final RuleReader ruleReader = new RuleReader();
    private final Rule[] rules = new Rule[RULES];
    private int ruleCount;
    private final Scene scene = new Scene();
    private final Scene[] images = new Scene[IMAGES];
    private final History history = new History();
    private final Days days = new Days();
    private final Plans plans = new Plans();
    private final Trials trials = new Trials();
    private final Guess guess = new Guess();

    public RankFord() {
        for (int k = 0; k < IMAGES; k++) {
            images[k] = new Scene();
        }
    }

    public int feed(int a, int b, int c, int d, int e) {
        if (!tape.hasRoom(20)) {
            return NONE;
        }
        tape.take(a);
        tape.take(b);
        tape.take(c);
        tape.take(d);
        tape.take(e);
        return tape.length;
    }

    public int end(int n) {
        if (n < 0 || n > tape.length) {
            return NONE;
        }
        tape.length = n;
        return n;
    }

    public int ford() {
        int fault = fordReader.read(tape);
        tape.length = 0;
        if (fault != 0) {
            return -2 - fault;
        }
        scene.begin.copyFrom(fordReader.world);
        scene.now.copyFrom(fordReader.world);
        scene.noteCount = 0;
        history.forget();
        return scene.now.people;
    }

    public int rule() {
        if (ruleCount >= RULES) {
            return NONE;
        }
        int fault = ruleReader.read(tape);
        tape.length = 0;
        if (fault != 0) {
            return -2 - fault;
        }
        rules[ruleCount] = ruleReader.made();
        ruleCount++;
        return ruleCount - 1;
    }

    public int force(int rule) {
        if (rule < NONE || rule >= ruleCount) {
            return -2;
        }
        int was = scene.forced;
        scene.forced = rule;
        return was;
    }

    public int person(int person, int what) {
        World now = scene.now;
        if (!now.has(person)) {
            return NONE;
        }
        switch (what) {
            case 0:
                return now.height(person);
            case 1:
                return now.purse(person);
            case 2:
                return now.fee(person);
            case 3:
                return now.side(person);
            default:
                return NONE;
        }
    }

    public int thinks(int person, int other) {
        return hasBoth(person, other) ? scene.now.thought(person, other) : NONE;
    }

    public int depth(int person, int other) {
        return hasBoth(person, other) ? scene.now.depthFor(person, other) : NONE;
    }

    public int day() {
        World now = scene.now;
        if (!now.told || now.date >= LAST_DAY) {
            return NONE;
        }
        history.keep(now);
        return days.pass(now, ruleInForce());
    }

    public int cross(int person, int other) {
        World now = scene.now;
        if (!hasBoth(person, other) || !now.can(person, other)) {
            return NONE;
        }
        history.keep(now);
        now.go(person, other);
        return now.side(person);
    }

    public int remark(int person, int other, int much) {
        World now = scene.now;
        if (!hasBoth(person, other) || !within(much, 0, HIGHEST_THOUGHT)) {
            return NONE;
        }
        int was = now.thought(person, other);
        if (was == much) {
            return NONE;
        }
        history.keep(now);
        now.think(person, other, much);
        return was;
    }

    public int pay(int person, int other, int coins) {
        World now = scene.now;
        if (!hasTwo(person, other) || !within(coins, 1, 99) || coins > now.purse(person)) {
            return NONE;
        }
        history.keep(now);
        now.give(person, other, coins);
        return now.purse(person);
    }

    public int flood(int deep) {
        World now = scene.now;
        if (!now.told || !within(deep, 0, DEEPEST) || deep == now.deep) {
            return NONE;
        }
        history.keep(now);
        int was = now.deep;
        now.deep = deep;
        return was;
    }

    public int undo() {
        if (history.count <= 0) {
            return NONE;
        }
        history.bringBack(scene.now);
        return history.count;
    }

    public int ahead(int person, int n, int what) {
        if (!scene.now.has(person) || !within(n, 0, FARTHEST) || !within(what, 0, 2)) {
            return NONE;
        }
        World then = trials.after(scene.now, ruleInForce(), n);
        if (what == 0) {
            return then.side(person);
        }
        return what == 1 ? then.purse(person) : then.thought(person, person);
    }

    public int over() {
        return scene.now.told ? trials.dayAllOver(scene.now, ruleInForce()) : NONE;
    }

    public int most(int what) {
        World now = scene.now;
        if (!now.told || !within(what, 0, 7)) {
            return -3;
        }
        if (what >= 2 && (!now.has(what - 2) || now.side(what - 2) != 0)) {
            return -2;
        }
        plans.partBest(now);
        if (what == 0) {
            return plans.mostGoing;
        }
        return what == 1 ? plans.leastCoins : plans.bestWith[what - 2];
    }

    public int fewest(int what) {
        if (!scene.now.told || !within(what, 0, 2)) {
            return -3;
        }
        return plans.fewestGoings(scene.now, what);
    }

    public int ring(int what) {
        if (!scene.now.told || !within(what, 0, 1)) {
            return NONE;
        }
        int set = plans.shortestRing(scene.now);
        if (set == 0) {
            return -2;
        }
        return what == 0 ? Integer.bitCount(set) : set;
    }

    public int oneRemark(int what) {
        if (!scene.now.told || !within(what, 0, 2)) {
            return -2;
        }
        trials.findRemark(scene.now);
        if (what == 0) {
            return trials.bestCount;
        }
        return what == 1 ? trials.bestPerson : trials.bestNumber;
    }

    public int rise(int person) {
        return scene.now.has(person) ? trials.drowningDepth(scene.now, person) : NONE;
    }

    public int fair() {
        return scene.now.told ? plans.fairOnes(scene.now) : NONE;
    }

    public int self(int person, int other) {
        World now = scene.now;
        if (!hasTwo(person, other) || now.side(person) != now.side(other)) {
            return NONE;
        }
        return trials.leastSelf(now, person, other);
    }

    public int hired(int n, int what) {
        if (!scene.now.told || !within(n, 1, 30) || !within(what, 0, 1)) {
            return -2;
        }
        trials.findFreeHand(scene.now, ruleInForce(), n);
        return what == 0 ? trials.bestPerson : trials.bestCount;
    }

    public int rests(int one, int other, int n, int what) {
        if (!hasTwo(one, other) || !within(n, 1, 20) || !within(what, 0, 2)) {
            return NONE;
        }
        trials.playFees(scene.now, ruleInForce(), one, other, n);
        return trials.restOfGame(what);
    }

    public int price(int one, int other) {
        World now = scene.now;
        if (!hasTwo(one, other) || now.side(one) != 0 || now.side(other) != 0 || now.can(other, other)) {
            return NONE;
        }
        return trials.greatestFee(now, ruleInForce(), one, other);
    }

    public int note(int n, int person, int side) {
        if (n == NONE) {
            scene.noteCount = 0;
            return 0;
        }
        if (!scene.now.has(person) || !within(n, 0, FARTHEST) || !within(side, 0, 1) || !scene.hasNoteRoom()) {
            return -2;
        }
        scene.addNote(n, person, side);
        return scene.noteCount;
    }

    public int ruled(int what) {
        if (!scene.now.told || !within(what, 0, 1)) {
            return -3;
        }
        guess.weigh(scene, rules, ruleCount);
        return what == 0 ? guess.fitting() : guess.firstFitting();
    }

    public int look(int what) {
        if (!scene.now.told || !within(what, 0, 1)) {
            return NONE;
        }
        guess.weigh(scene, rules, ruleCount);
        return guess.bestLook(what);
    }

    public int seed(int x) {
        if (x < 0) {
            return NONE;
        }
        int was = scene.x;
        scene.x = x;
        return was;
    }

    public int fairs(int m, int n, int p, int what) {
        if (!scene.now.told || !within(m, 1, 10) || !within(n, 1, FARTHEST)) {
            return NONE;
        }
        if (!within(p, 0, 100) || !within(what, 0, 1)) {
            return NONE;
        }
        trials.x = scene.x;
        trials.holdFairs(scene.now, ruleInForce(), m, n, p);
        return what == 0 ? trials.bestCount : trials.coins;
    }

    public int count(int what) {
        World now = scene.now;
        switch (what) {
            case 0:
                return now.deep;
            case 1:
                return now.pride;
            case 2:
                return now.people;
            case 3:
                return ruleCount;
            case 4:
                return scene.forced;
            case 5:
                return now.date;
            case 6:
                return now.across;
            case 7:
                return now.coinsOf(now.all());
            case 8:
                return scene.noteCount;
            case 9:
                return history.count;
            case 10:
                return scene.x;
            case 11:
                return tape.length;
            default:
                return NONE;
        }
    }

    public int image(int k) {
        if (!within(k, 0, IMAGES - 1)) {
            return NONE;
        }
        images[k].copyFrom(scene);
        images[k].made = true;
        return scene.now.date;
    }

    public int back(int k) {
        if (!within(k, 0, IMAGES - 1) || !images[k].made) {
            return NONE;
        }
        scene.copyFrom(images[k]);
        history.forget();
        return scene.now.date;
    }

    private Rule ruleInForce() {
        int forced = scene.forced;
        return forced >= 0 && forced < ruleCount ? rules[forced] : null;
    }

    private boolean hasBoth(int person, int other) {
        return scene.now.has(person) && scene.now.has(other);
    }

    private boolean hasTwo(int person, int other) {
        return person != other && hasBoth(person, other);
    }

    private static boolean within(int x, int least, int most) {
        return x >= least && x <= most;
    }

    /** The water and the people: all that the text tells and that acts change. */
    static final class World {
        private static final int HEIGHT = 0;
        private static final int PURSE = 6;
        private static final int FEE = 12;
        private static final int THOUGHT = 18;
        private static final int TRAITS = 54;
        private static final int FULL_PURSE = 9999;
        private static final int FIRST_THOUGHT = 10;

        boolean told;
        int deep;
        int pride;
        int people;
        int date;
        /** Those on side 1, as bits. */
        int across;
        /** One row for all traits, so that a copy is one call. */
        final int[] traits = new int[TRAITS];

        void copyFrom(World from) {
            told = from.told;
            deep = from.deep;
            pride = from.pride;
            people = from.people;
            date = from.date;
            across = from.across;
            System.arraycopy(from.traits, 0, traits, 0, TRAITS);
        }

        void begin(int howDeep, int howProud) {
            told = true;
            deep = howDeep;
            pride = howProud;
            people = 0;
            date = 0;
            across = 0;
            for (int i = 0; i < TRAITS; i++) {
                traits[i] = i < THOUGHT ? 0 : FIRST_THOUGHT;
            }
        }

        void add(int height, int purse, int fee) {
            if (people < CROWD) {
                traits[HEIGHT + people] = height;
                traits[PURSE + people] = purse;
                traits[FEE + people] = fee;
                people++;
            }
        }

        boolean has(int p) {
            return p >= 0 && p < people;
        }

        int all() {
            return (1 << people) - 1;
        }

        int side(int p) {
            return across >> p & 1;
        }

        int height(int p) {
            return traits[HEIGHT + p];
        }

        int purse(int p) {
            return traits[PURSE + p];
        }

        int fee(int p) {
            return traits[FEE + p];
        }

        void setFee(int p, int fee) {
            traits[FEE + p] = fee;
        }

        int thought(int p, int o) {
            return traits[THOUGHT + CROWD * p + o];
        }

        void think(int p, int o, int much) {
            traits[THOUGHT + CROWD * p + o] = much;
        }

        /** With themselves it comes to how deep it is: alone. */
        int depthFor(int p, int o) {
            int row = THOUGHT + CROWD * p;
            int depth = deep + traits[row + o] - traits[row + p];
            return depth < 0 ? 0 : depth;
        }

        /** Whether it is too deep for neither of them; fees are not looked at. */
        boolean canWade(int p, int o) {
            return depthFor(p, o) <= traits[HEIGHT + p] && depthFor(o, p) <= traits[HEIGHT + o];
        }

        boolean can(int p, int o) {
            if (p == o) {
                return deep <= traits[HEIGHT + p];
            }
            return side(p) == side(o) && traits[PURSE + p] >= traits[FEE + o] && canWade(p, o);
        }

        boolean canAnyhow(int p) {
            for (int o = 0; o < people; o++) {
                if (can(p, o)) {
                    return true;
                }
            }
            return false;
        }

        void go(int p, int o) {
            step(p);
            if (o != p) {
                step(o);
                give(p, o, traits[FEE + o]);
            }
        }

        void step(int p) {
            across ^= 1 << p;
            int own = THOUGHT + CROWD * p + p;
            traits[own] = Math.min(HIGHEST_THOUGHT, traits[own] + pride);
        }

        void give(int p, int o, int coins) {
            traits[PURSE + p] -= coins;
            traits[PURSE + o] = Math.min(FULL_PURSE, traits[PURSE + o] + coins);
        }

        int coinsOf(int set) {
            int coins = 0;
            for (int p = 0; p < people; p++) {
                if ((set >> p & 1) == 1) {
                    coins += traits[PURSE + p];
                }
            }
            return coins;
        }
    }

    /** All that an image holds. */
    static final class Scene {
        private static final int NOTES = 10;

        boolean made;
        final World begin = new World();
        final World now = new World();
        final int[] noteDays = new int[NOTES];
        final int[] notePeople = new int[NOTES];
        final int[] noteSides = new int[NOTES];
        int noteCount;
        int x;
        int forced = NONE;

        void copyFrom(Scene from) {
            begin.copyFrom(from.begin);
            now.copyFrom(from.now);
            System.arraycopy(from.noteDays, 0, noteDays, 0, NOTES);
            System.arraycopy(from.notePeople, 0, notePeople, 0, NOTES);
            System.arraycopy(from.noteSides, 0, noteSides, 0, NOTES);
            noteCount = from.noteCount;
            x = from.x;
            forced = from.forced;
        }

        boolean hasNoteRoom() {
            return noteCount < NOTES;
        }

        void addNote(int n, int person, int side) {
            if (hasNoteRoom()) {
                noteDays[noteCount] = n;
                notePeople[noteCount] = person;
                noteSides[noteCount] = side;
                noteCount++;
            }
        }
    }

    /** The worlds ahead of the last acts, in a row that goes round. */
    static final class History {
        private static final int ACTS = 20;

        private final World[] kept = new World[ACTS];
        private int next;
        int count;

        History() {
            for (int i = 0; i < ACTS; i++) {
                kept[i] = new World();
            }
        }

        void forget() {
            count = 0;
        }

        void keep(World now) {
            kept[next].copyFrom(now);
            next = next + 1 < ACTS ? next + 1 : 0;
            count = Math.min(ACTS, count + 1);
        }

        void bringBack(World now) {
            if (count > 0) {
                next = next > 0 ? next - 1 : ACTS - 1;
                count--;
                now.copyFrom(kept[next]);
            }
        }
    }

    /** The bytes fed, and the token of them that is being read. */
    static final class Tape {
        static final int ROOM = 400;
        /** Kinds of tokens; a byte that is none of these is its own kind. */
        static final int END = 256;
        static final int WORD = 257;
        static final int NUMBER = 258;
        static final int AT_MOST = 259;
        static final int AT_LEAST = 260;
        private static final int DIGITS = 5;

        private final byte[] bytes = new byte[ROOM];
        int length;
        int kind;
        /** What a number says; NONE if it has too many digits. */
        int number;
        private int at;
        private int after;

        boolean hasRoom(int more) {
            return length + more <= ROOM;
        }

        void take(int four) {
            for (int shift = 24; shift >= 0 && length < ROOM; shift -= 8) {
                bytes[length] = (byte) (four >> shift);
                length++;
            }
        }

        void rewind() {
            after = 0;
        }

        void advance() {
            at = after;
            while (at < length && bytes[at] == ' ') {
                at++;
            }
            after = at;
            if (at >= length) {
                kind = END;
                return;
            }
            int sign = bytes[at] & 255;
            if (sign >= 'a' && sign <= 'z') {
                kind = WORD;
                passWhile('a', 'z');
            } else if (sign >= '0' && sign <= '9') {
                kind = NUMBER;
                passWhile('0', '9');
                number = numberHere();
            } else {
                passSign(sign);
            }
        }

        private void passWhile(int least, int most) {
            while (after < length && bytes[after] >= least && bytes[after] <= most) {
                after++;
            }
        }

        private int numberHere() {
            if (after - at > DIGITS) {
                return NONE;
            }
            int value = 0;
            for (int i = at; i < after; i++) {
                value = 10 * value + (bytes[i] - '0');
            }
            return value;
        }

        private void passSign(int sign) {
            kind = sign;
            after = at + 1;
            boolean orSame = after < length && bytes[after] == '=';
            if (orSame && sign == '<') {
                kind = AT_MOST;
                after++;
            } else if (orSame && sign == '>') {
                kind = AT_LEAST;
                after++;
            }
        }

        boolean isWord(String word) {
            return kind == WORD && isPartOf(word, 0, word.length());
        }

        /** Which of the words of a list, parted by blanks, stands here. */
        int wordAmong(String list) {
            int index = 0;
            int start = 0;
            for (int i = 0; kind == WORD && i <= list.length(); i++) {
                if (i == list.length() || list.charAt(i) == ' ') {
                    if (isPartOf(list, start, i)) {
                        return index;
                    }
                    index++;
                    start = i + 1;
                }
            }
            return NONE;
        }

        private boolean isPartOf(String list, int from, int to) {
            if (after - at != to - from) {
                return false;
            }
            for (int i = from; i < to; i++) {
                if (list.charAt(i) != bytes[at + i - from]) {
                    return false;
                }
            }
            return true;
        }

        boolean endsClause() {
            return kind == END || kind == ';';
        }

        int fault(int why) {
            return 1 + 8 * at + why;
        }
    }

    /** Reads the tape as a ford. */
    static final class FordReader {
        private static final String STARTS = "ford person thinks";
        private static final int FORD = 0;
        private static final int PERSON = 1;
        private static final int CLAUSES = 40;

        final World world = new World();
        private final int[] numbers = new int[3];
        private int fault;

        /** The fault, or 0: then the world is as told. */
        int read(Tape tape) {
            fault = 0;
            tape.rewind();
            for (int clause = 0; clause <= CLAUSES; clause++) {
                tape.advance();
                readClause(tape, clause);
                if (fault != 0 || tape.kind == Tape.END) {
                    return fault;
                }
            }
            return fault;
        }

        private void readClause(Tape tape, int clause) {
            int start = tape.wordAmong(STARTS);
            if (start == NONE) {
                fault = tape.fault(0);
                return;
            }
            boolean misplaced = (clause == 0) != (start == FORD);
            boolean tooMany = clause >= CLAUSES || (start == PERSON && world.people >= CROWD);
            if (misplaced || tooMany) {
                fault = tape.fault(4);
                return;
            }
            readNumbers(tape, start);
            if (fault == 0) {
                tell(start);
                tape.advance();
                if (!tape.endsClause()) {
                    fault = tape.fault(0);
                }
            }
        }

        private void readNumbers(Tape tape, int start) {
            if (start == FORD) {
                readNumber(tape, 0, DEEPEST);
                readNumber(tape, 1, 5);
            } else if (start == PERSON) {
                readNumber(tape, 0, 60);
                readNumber(tape, 1, 99);
                readNumber(tape, 2, 9);
            } else {
                readNumber(tape, 0, world.people - 1);
                readNumber(tape, 1, world.people - 1);
                readNumber(tape, 2, HIGHEST_THOUGHT);
            }
        }

        private void readNumber(Tape tape, int which, int most) {
            if (fault != 0) {
                return;
            }
            tape.advance();
            if (tape.kind != Tape.NUMBER) {
                fault = tape.fault(0);
            } else if (tape.number == NONE || tape.number > most) {
                fault = tape.fault(1);
            } else {
                numbers[which] = tape.number;
            }
        }

        private void tell(int start) {
            if (start == FORD) {
                world.begin(numbers[0], numbers[1]);
            } else if (start == PERSON) {
                world.add(numbers[0], numbers[1], numbers[2]);
            } else {
                world.think(numbers[0], numbers[1], numbers[2]);
            }
        }
    }

    /** Reads the tape as a rule, into signs in the order in which they are worked out. */
    static final class RuleReader {
        private static final String VALUES = "person with alone depth height purse fee thinks self here over day";
        private static final int CLAUSES = 12;
        private static final int DEEP = 10;
        private static final int PIECES = 60;
        private static final int WAITING = 64;

        private static final int WANT_CLAUSE = 0;
        private static final int WANT_VALUE = 1;
        private static final int WANT_FACT = 2;
        private static final int HAVE_VALUE = 3;
        private static final int HAVE_FACT = 4;
        private static final int FINISHED = 5;

        private static final int OF_GO = 0;
        private static final int LEFT = 1;
        private static final int RIGHT = 2;

        private final int[] code = new int[Tape.ROOM];
        private int length;
        private final int[] waiting = new int[WAITING];
        private int waits;
        private int state;
        private int sum;
        private int clauses;
        private int nested;
        private int brackets;
        private int pieces;
        private int fault;

        /** The fault, or 0: then the rule can be made. */
        int read(Tape tape) {
            length = 0;
            waits = 0;
            state = WANT_CLAUSE;
            clauses = 0;
            nested = 0;
            brackets = 0;
            pieces = 0;
            fault = 0;
            tape.rewind();
            for (int i = 0; i <= Tape.ROOM && fault == 0 && state != FINISHED; i++) {
                tape.advance();
                takeToken(tape);
            }
            return fault;
        }

        Rule made() {
            return new Rule(Arrays.copyOf(code, length));
        }

        private void takeToken(Tape tape) {
            switch (state) {
                case WANT_CLAUSE:
                    takeGo(tape);
                    break;
                case WANT_VALUE:
                    takeValue(tape);
                    break;
                case WANT_FACT:
                    takeFact(tape);
                    break;
                case HAVE_VALUE:
                    takeBehindValue(tape);
                    break;
                default:
                    takeBehindFact(tape);
                    break;
            }
        }

        private void takeGo(Tape tape) {
            if (!tape.isWord("go")) {
                fault = tape.fault(0);
            } else if (clauses >= CLAUSES) {
                fault = tape.fault(4);
            } else {
                clauses++;
                sum = OF_GO;
                state = WANT_VALUE;
            }
        }

        private void takeValue(Tape tape) {
            int word = tape.wordAmong(VALUES);
            if (tape.kind != Tape.NUMBER && word == NONE) {
                fault = tape.fault(0);
            } else if (tape.kind == Tape.NUMBER && tape.number == NONE) {
                fault = tape.fault(1);
            } else if (pieces >= PIECES) {
                fault = tape.fault(3);
            } else {
                pieces++;
                emit(word == NONE ? Rule.NUMBER + tape.number : word);
                state = HAVE_VALUE;
            }
        }

        private void takeFact(Tape tape) {
            if (tape.kind == '[') {
                open(tape, Rule.OPEN);
            } else if (tape.isWord("not")) {
                open(tape, Rule.NOT);
            } else {
                sum = LEFT;
                takeValue(tape);
            }
        }

        private void open(Tape tape, int sign) {
            if (nested >= DEEP) {
                fault = tape.fault(2);
                return;
            }
            nested++;
            if (sign == Rule.OPEN) {
                brackets++;
            }
            await(sign);
        }

        private void takeBehindValue(Tape tape) {
            int reckoning = reckoningOf(tape.kind);
            int comparison = comparisonOf(tape.kind);
            if (reckoning != NONE) {
                takeBetween(reckoning, WANT_VALUE);
            } else if (sum == LEFT && comparison != NONE) {
                takeComparison(tape, comparison);
            } else if (sum == RIGHT) {
                takeBehindFact(tape);
            } else if (sum == OF_GO && tape.isWord("if")) {
                settle(Rule.BIND_OR);
                state = WANT_FACT;
            } else if (sum == OF_GO && tape.endsClause()) {
                endClause(tape, Rule.END_PLAIN);
            } else {
                fault = tape.fault(0);
            }
        }

        private void takeComparison(Tape tape, int comparison) {
            if (pieces >= PIECES) {
                fault = tape.fault(3);
                return;
            }
            pieces++;
            sum = RIGHT;
            takeBetween(comparison, WANT_VALUE);
        }

        private void takeBehindFact(Tape tape) {
            if (tape.isWord("and")) {
                takeBetween(Rule.AND, WANT_FACT);
            } else if (tape.isWord("or")) {
                takeBetween(Rule.OR, WANT_FACT);
            } else if (tape.kind == ']' && brackets > 0) {
                close();
            } else if (tape.endsClause() && brackets == 0) {
                endClause(tape, Rule.END_TEST);
            } else {
                fault = tape.fault(0);
            }
        }

        private void takeBetween(int sign, int wanted) {
            settle(Rule.binding(sign));
            await(sign);
            state = wanted;
        }

        private void close() {
            settle(Rule.BIND_OR);
            if (waits > 0) {
                waits--;
            }
            nested--;
            brackets--;
            state = HAVE_FACT;
        }

        private void endClause(Tape tape, int sign) {
            settle(Rule.BIND_OR);
            emit(sign);
            state = tape.kind == Tape.END ? FINISHED : WANT_CLAUSE;
        }

        /** Signs that bind as closely, or closer, have both their sides now. */
        private void settle(int binding) {
            while (waits > 0 && Rule.binding(waiting[waits - 1]) >= binding) {
                waits--;
                if (waiting[waits] == Rule.NOT) {
                    nested--;
                }
                emit(waiting[waits]);
            }
        }

        private void await(int sign) {
            if (waits < WAITING) {
                waiting[waits] = sign;
                waits++;
            }
        }

        private void emit(int sign) {
            if (length < code.length) {
                code[length] = sign;
                length++;
            }
        }

        private static int reckoningOf(int kind) {
            switch (kind) {
                case '+':
                    return Rule.PLUS;
                case '-':
                    return Rule.MINUS;
                case '*':
                    return Rule.TIMES;
                case '/':
                    return Rule.PARTS;
                case '%':
                    return Rule.REST;
                default:
                    return NONE;
            }
        }

        private static int comparisonOf(int kind) {
            switch (kind) {
                case '<':
                    return Rule.LESS;
                case Tape.AT_MOST:
                    return Rule.AT_MOST;
                case '=':
                    return Rule.SAME;
                case Tape.AT_LEAST:
                    return Rule.AT_LEAST;
                case '>':
                    return Rule.MORE;
                default:
                    return NONE;
            }
        }
    }

    /** A rule: values, each sign behind what it joins, and at the end of each clause a sign for that. */
    static final class Rule {
        /** Words are signs too, by their place in the list of words. */
        static final int PERSON = 0;
        static final int WITH = 1;
        static final int ALONE = 2;
        static final int DEPTH = 3;
        static final int HEIGHT = 4;
        static final int PURSE = 5;
        static final int FEE = 6;
        static final int THINKS = 7;
        static final int SELF = 8;
        static final int HERE = 9;
        static final int OVER = 10;
        static final int DAY = 11;
        static final int WORDS = 12;
        static final int TIMES = 12;
        static final int PARTS = 13;
        static final int REST = 14;
        static final int PLUS = 15;
        static final int MINUS = 16;
        static final int LESS = 17;
        static final int AT_MOST = 18;
        static final int SAME = 19;
        static final int AT_LEAST = 20;
        static final int MORE = 21;
        static final int NOT = 22;
        static final int AND = 23;
        static final int OR = 24;
        static final int OPEN = 25;
        static final int END_PLAIN = 26;
        static final int END_TEST = 27;
        /** From here on a sign is a number. */
        static final int NUMBER = 32;

        static final int BIND_OR = 1;
        private static final int STACK = 64;

        private final int[] code;
        private final long[] stack = new long[STACK];
        final boolean looksAtDay;

        Rule(int[] code) {
            this.code = code;
            boolean looks = false;
            for (int i = 0; i < code.length; i++) {
                looks = looks || code[i] == DAY;
            }
            looksAtDay = looks;
        }

        static int binding(int sign) {
            if (sign <= REST) {
                return 6;
            }
            if (sign <= MINUS) {
                return 5;
            }
            if (sign <= MORE) {
                return 4;
            }
            if (sign == NOT) {
                return 3;
            }
            if (sign == AND) {
                return 2;
            }
            return sign == OR ? BIND_OR : 0;
        }

        /** The sum of the first clause that holds; the words' row has what each word says. */
        long worth(long[] words) {
            int top = 0;
            for (int i = 0; i < code.length; i++) {
                int sign = code[i];
                if (sign >= NUMBER || sign < WORDS) {
                    if (top < STACK && (sign >= NUMBER || sign < words.length)) {
                        stack[top] = sign >= NUMBER ? sign - NUMBER : words[sign];
                        top++;
                    }
                } else if (sign == END_PLAIN) {
                    return stack[0];
                } else if (sign == END_TEST) {
                    if (stack[1] != 0) {
                        return stack[0];
                    }
                    top = 0;
                } else if (sign == NOT) {
                    if (top > 0) {
                        stack[top - 1] = 1 - stack[top - 1];
                    }
                } else if (top > 1) {
                    top--;
                    stack[top - 1] = joined(sign, stack[top - 1], stack[top]);
                }
            }
            return 0;
        }

        private static long joined(int sign, long a, long b) {
            switch (sign) {
                case TIMES:
                    return a * b;
                case PARTS:
                    return b == 0 ? 0 : a / b;
                case REST:
                    return b == 0 ? 0 : a % b;
                case PLUS:
                    return a + b;
                case MINUS:
                    return a - b;
                case LESS:
                    return a < b ? 1 : 0;
                case AT_MOST:
                    return a <= b ? 1 : 0;
                case SAME:
                    return a == b ? 1 : 0;
                case AT_LEAST:
                    return a >= b ? 1 : 0;
                case MORE:
                    return a > b ? 1 : 0;
                case AND:
                    return a & b;
                default:
                    return a | b;
            }
        }
    }

    /** How days go. */
    static final class Days {
        private final long[] words = new long[Rule.WORDS];
        /** With whom each went on the last day by their own choice; NONE if they did not. */
        final int[] choices = new int[CROWD];

        /** How many go. */
        int pass(World world, Rule rule) {
            int before = world.across;
            for (int p = 0; p < world.people; p++) {
                choices[p] = NONE;
                if (world.side(p) == 0) {
                    int with = rule == null ? plainChoice(world, p) : ruledChoice(world, p, rule);
                    choices[p] = with;
                    if (with != NONE) {
                        world.go(p, with);
                    }
                }
            }
            world.date++;
            return Integer.bitCount(world.across ^ before);
        }

        void passMany(World world, Rule rule, int n) {
            boolean still = false;
            for (int i = 0; i < n && !still; i++) {
                still = isStill(pass(world, rule), rule);
            }
        }

        /** If nobody went, and the rule does not look at the day, all days behind it are alike. */
        boolean isStill(int went, Rule rule) {
            return went == 0 && (rule == null || !rule.looksAtDay);
        }

        private int plainChoice(World world, int p) {
            if (world.can(p, p)) {
                return p;
            }
            int best = NONE;
            for (int o = 0; o < world.people; o++) {
                if (o != p && world.can(p, o) && (best == NONE || world.fee(o) < world.fee(best))) {
                    best = o;
                }
            }
            return best;
        }

        private int ruledChoice(World world, int p, Rule rule) {
            int best = NONE;
            long most = 0;
            tellPerson(world, p);
            if (world.can(p, p)) {
                tellOther(world, p, p);
                most = Math.max(0, rule.worth(words));
                best = most > 0 ? p : NONE;
            }
            for (int o = 0; o < world.people; o++) {
                if (o != p && world.can(p, o)) {
                    tellOther(world, p, o);
                    long worth = rule.worth(words);
                    if (worth > most) {
                        most = worth;
                        best = o;
                    }
                }
            }
            return best;
        }

        private void tellPerson(World world, int p) {
            int over = Integer.bitCount(world.across);
            words[Rule.PERSON] = p;
            words[Rule.HEIGHT] = world.height(p);
            words[Rule.PURSE] = world.purse(p);
            words[Rule.SELF] = world.thought(p, p);
            words[Rule.HERE] = world.people - over;
            words[Rule.OVER] = over;
            words[Rule.DAY] = world.date;
        }

        private void tellOther(World world, int p, int o) {
            words[Rule.WITH] = o;
            words[Rule.ALONE] = o == p ? 1 : 0;
            words[Rule.DEPTH] = world.depthFor(p, o);
            words[Rule.FEE] = o == p ? 0 : world.fee(o);
            words[Rule.THINKS] = world.thought(p, o);
        }
    }

    /** What can be seen from how all is now, without a day going by. */
    static final class Plans {
        private static final int SIDES = 64;
        private static final int GOINGS = 21;

        int mostGoing;
        int leastCoins;
        final int[] bestWith = new int[CROWD];
        private final int[] with = new int[CROWD];
        private final int[] goers = new int[GOINGS];
        private final int[] partners = new int[GOINGS];
        private int goingCount;
        private final int[] far = new int[SIDES];
        private final int[] queue = new int[SIDES];

        void partBest(World world) {
            mostGoing = NONE;
            leastCoins = 0;
            partFrom(world, 0, world.across, 0, 0);
        }

        /** Ways come in the order of their rows, so of ways alike the first stays. */
        private void partFrom(World world, int p, int placed, int going, int coins) {
            if (p >= world.people) {
                weighParting(going, coins);
                return;
            }
            if ((placed >> p & 1) == 1) {
                partFrom(world, p + 1, placed, going, coins);
                return;
            }
            with[p] = NONE;
            partFrom(world, p + 1, placed, going, coins);
            if (world.can(p, p)) {
                with[p] = p;
                partFrom(world, p + 1, placed, going + 1, coins);
            }
            for (int o = p + 1; o < world.people; o++) {
                if ((placed >> o & 1) == 0 && world.can(p, o)) {
                    with[p] = o;
                    with[o] = p;
                    partFrom(world, p + 1, placed | 1 << o, going + 2, coins + world.fee(o));
                }
            }
        }

        private void weighParting(int going, int coins) {
            if (going > mostGoing || (going == mostGoing && coins < leastCoins)) {
                mostGoing = going;
                leastCoins = coins;
                System.arraycopy(with, 0, bestWith, 0, CROWD);
            }
        }

        int fewestGoings(World world, int what) {
            listGoings(world);
            measureFrom(world.all());
            int here = world.across & world.all();
            if (far[here] == NONE) {
                return -2;
            }
            if (what == 0) {
                return far[here];
            }
            return far[here] == 0 ? NONE : firstGoing(here, what);
        }

        private int firstGoing(int here, int what) {
            for (int i = 0; i < goingCount; i++) {
                if (isTogether(here, i) && far[here ^ both(i)] == far[here] - 1) {
                    return what == 1 ? goers[i] : partners[i];
                }
            }
            return NONE;
        }

        /** In the order in which the first going is chosen. */
        private void listGoings(World world) {
            goingCount = 0;
            for (int p = 0; p < world.people; p++) {
                if (world.canWade(p, p)) {
                    addGoing(p, p);
                }
            }
            for (int p = 0; p < world.people; p++) {
                for (int o = p + 1; o < world.people; o++) {
                    if (world.canWade(p, o)) {
                        addGoing(p, o);
                    }
                }
            }
        }

        private void addGoing(int p, int o) {
            if (goingCount < GOINGS) {
                goers[goingCount] = p;
                partners[goingCount] = o;
                goingCount++;
            }
        }

        private int both(int going) {
            return 1 << goers[going] | 1 << partners[going];
        }

        private boolean isTogether(int across, int going) {
            int there = across & both(going);
            return there == 0 || there == both(going);
        }

        /** A going can be gone back, so it is as far from the end as to it. */
        private void measureFrom(int end) {
            Arrays.fill(far, NONE);
            far[end] = 0;
            queue[0] = end;
            int filled = 1;
            for (int head = 0; head < filled && head < SIDES; head++) {
                int at = queue[head];
                for (int i = 0; i < goingCount; i++) {
                    int to = at ^ both(i);
                    if (isTogether(at, i) && far[to] == NONE && filled < SIDES) {
                        far[to] = far[at] + 1;
                        queue[filled] = to;
                        filled++;
                    }
                }
            }
        }

        /** The set of the ring; 0 if there is none. */
        int shortestRing(World world) {
            for (int size = 2; size <= world.people; size++) {
                for (int first = 0; first < world.people; first++) {
                    int set = ringOn(world, first, first, 1 << first, size - 1);
                    if (set != 0) {
                        return set;
                    }
                }
            }
            return 0;
        }

        private static int ringOn(World world, int first, int last, int set, int left) {
            if (left <= 0) {
                return looksDown(world, last, first) ? set : 0;
            }
            for (int next = first + 1; next < world.people; next++) {
                if ((set >> next & 1) == 0 && looksDown(world, last, next)) {
                    int found = ringOn(world, first, next, set | 1 << next, left - 1);
                    if (found != 0) {
                        return found;
                    }
                }
            }
            return 0;
        }

        private static boolean looksDown(World world, int p, int o) {
            return world.thought(p, o) < world.thought(p, p);
        }

        int fairOnes(World world) {
            int set = 0;
            for (int p = 0; p < world.people; p++) {
                boolean fairTo = true;
                for (int o = 0; o < world.people; o++) {
                    fairTo = fairTo && (o == p || world.depthFor(p, o) <= 1);
                }
                set |= fairTo ? 1 << p : 0;
            }
            return set;
        }
    }

    /** What would be if something were otherwise, tried on a copy. */
    static final class Trials {
        private static final int ASKED = 5;
        private static final int GREATEST_FEE = 9;

        int bestPerson;
        int bestNumber;
        int bestCount;
        int coins;
        int x;
        private final World world = new World();
        private final Days days = new Days();
        private final int[] firstPurses = new int[ASKED * ASKED];
        private final int[] secondPurses = new int[ASKED * ASKED];

        World after(World now, Rule rule, int n) {
            world.copyFrom(now);
            days.passMany(world, rule, n);
            return world;
        }

        int dayAllOver(World now, Rule rule) {
            world.copyFrom(now);
            for (int i = 0; i < FARTHEST; i++) {
                if (world.across == world.all()) {
                    return world.date;
                }
                days.pass(world, rule);
            }
            return -2;
        }

        void findRemark(World now) {
            world.copyFrom(now);
            bestPerson = NONE;
            bestNumber = NONE;
            bestCount = whoCan();
            for (int p = 0; p < world.people; p++) {
                for (int much = 0; much <= HIGHEST_THOUGHT; much++) {
                    world.think(p, p, much);
                    int can = whoCan();
                    if (can > bestCount) {
                        bestCount = can;
                        bestPerson = p;
                        bestNumber = much;
                    }
                }
                world.think(p, p, now.thought(p, p));
            }
        }

        private int whoCan() {
            int can = 0;
            for (int p = 0; p < world.people; p++) {
                if (world.side(p) == 0 && world.canAnyhow(p)) {
                    can++;
                }
            }
            return can;
        }

        int drowningDepth(World now, int person) {
            world.copyFrom(now);
            for (int deep = 0; deep <= DEEPEST; deep++) {
                world.deep = deep;
                if (!world.canAnyhow(person)) {
                    return deep;
                }
            }
            return -2;
        }

        int leastSelf(World now, int person, int other) {
            world.copyFrom(now);
            for (int much = 0; much <= HIGHEST_THOUGHT; much++) {
                world.think(person, person, much);
                if (world.can(person, other)) {
                    return much;
                }
            }
            return -2;
        }

        void findFreeHand(World now, Rule rule, int n) {
            bestPerson = NONE;
            bestCount = NONE;
            for (int p = NONE; p < now.people; p++) {
                world.copyFrom(now);
                if (p != NONE) {
                    world.setFee(p, 0);
                }
                days.passMany(world, rule, n);
                int over = Integer.bitCount(world.across);
                if (over > bestCount) {
                    bestCount = over;
                    bestPerson = p;
                }
            }
        }

        /** A row for each fee of the one, in it a place for each fee of the other. */
        void playFees(World now, Rule rule, int one, int other, int n) {
            for (int fees = 0; fees < ASKED * ASKED; fees++) {
                world.copyFrom(now);
                world.setFee(one, fees / ASKED);
                world.setFee(other, fees % ASKED);
                days.passMany(world, rule, n);
                firstPurses[fees] = world.purse(one);
                secondPurses[fees] = world.purse(other);
            }
        }

        int restOfGame(int what) {
            int rests = 0;
            int first = NONE;
            for (int fees = 0; fees < ASKED * ASKED; fees++) {
                if (isRest(fees / ASKED, fees % ASKED)) {
                    rests++;
                    first = first == NONE ? fees : first;
                }
            }
            if (what == 0) {
                return rests;
            }
            if (first == NONE) {
                return -2;
            }
            return what == 1 ? first / ASKED : first % ASKED;
        }

        private boolean isRest(int oneFee, int otherFee) {
            int here = ASKED * oneFee + otherFee;
            for (int fee = 0; fee < ASKED; fee++) {
                boolean firstGains = firstPurses[ASKED * fee + otherFee] > firstPurses[here];
                boolean secondGains = secondPurses[ASKED * oneFee + fee] > secondPurses[here];
                if (firstGains || secondGains) {
                    return false;
                }
            }
            return true;
        }

        int greatestFee(World now, Rule rule, int one, int other) {
            for (int fee = GREATEST_FEE; fee >= 0; fee--) {
                world.copyFrom(now);
                world.setFee(one, fee);
                days.pass(world, rule);
                if (days.choices[other] == one) {
                    return fee;
                }
            }
            return -2;
        }

        void holdFairs(World now, Rule rule, int m, int n, int p) {
            bestCount = 0;
            coins = 0;
            for (int i = 0; i < m; i++) {
                world.copyFrom(now);
                holdFair(rule, n, p);
                bestCount += Integer.bitCount(world.across);
                coins += world.coinsOf(world.across);
            }
        }

        private void holdFair(Rule rule, int n, int p) {
            boolean still = false;
            for (int i = 0; i < n; i++) {
                if (draw() % 100 < p && world.people > 0) {
                    int person = draw() % world.people;
                    world.think(person, person, draw() % (HIGHEST_THOUGHT + 1));
                    still = false;
                }
                if (!still) {
                    still = days.isStill(days.pass(world, rule), rule);
                }
            }
        }

        private int draw() {
            x = (int) ((x * 1103515245L + 12345L) % 2147483648L);
            return x / 65536;
        }
    }

    /** By which rules the days that were told can have been. Place 0 is that of no rule. */
    static final class Guess {
        private static final int KINDS = RULES + 1;

        private final World world = new World();
        private final Days days = new Days();
        private final int[][] across = new int[KINDS][FARTHEST + 1];
        private final boolean[] fits = new boolean[KINDS];
        private int kinds;

        void weigh(Scene scene, Rule[] rules, int ruleCount) {
            kinds = Math.min(ruleCount, rules.length) + 1;
            kinds = Math.min(kinds, KINDS);
            for (int kind = 0; kind < kinds; kind++) {
                world.copyFrom(scene.begin);
                goOn(kind == 0 ? null : rules[kind - 1], across[kind]);
                fits[kind] = hasAllNotes(scene, across[kind]);
            }
        }

        private void goOn(Rule rule, int[] row) {
            boolean still = false;
            for (int n = 0; n <= FARTHEST; n++) {
                if (!still) {
                    still = days.isStill(days.pass(world, rule), rule);
                }
                // Behind DAY n, which has gone by then: DAY 0 is the first.
                row[n] = world.across;
            }
        }

        private static boolean hasAllNotes(Scene scene, int[] row) {
            for (int i = 0; i < scene.noteCount; i++) {
                int side = row[scene.noteDays[i]] >> scene.notePeople[i] & 1;
                if (side != scene.noteSides[i]) {
                    return false;
                }
            }
            return true;
        }

        int fitting() {
            int count = 0;
            for (int kind = 0; kind < kinds; kind++) {
                count += fits[kind] ? 1 : 0;
            }
            return count;
        }

        int firstFitting() {
            for (int kind = 0; kind < kinds; kind++) {
                if (fits[kind]) {
                    return kind - 1;
                }
            }
            return -2;
        }

        int bestLook(int what) {
            if (fitting() == 0) {
                return -2;
            }
            int best = 0;
            int fewest = mostAlike(0);
            for (int n = 1; n <= FARTHEST; n++) {
                int alike = mostAlike(n);
                if (alike < fewest) {
                    fewest = alike;
                    best = n;
                }
            }
            return what == 0 ? best : fewest;
        }

        private int mostAlike(int n) {
            int most = 0;
            for (int kind = 0; kind < kinds; kind++) {
                int alike = 0;
                for (int other = 0; fits[kind] && other < kinds; other++) {
                    alike += fits[other] && across[other][n] == across[kind][n] ? 1 : 0;
                }
                most = Math.max(most, alike);
            }
            return most;
        }
    }
}
