import java.util.ArrayDeque;
import java.util.ArrayList;
import java.util.Arrays;
import java.util.Deque;
import java.util.HashMap;
import java.util.List;
import java.util.Map;
import java.util.function.Predicate;
import java.util.function.ToLongFunction;

/**
 * The document once more, written plainly and apart from the program: texts by
 * recursive descent into trees, answers by trying everything. Slow and wasteful.
 */
final class Oracle {
    static final int NONE = -1;

    /** A fault of a text, thrown out of the descent. */
    static final class Fault extends RuntimeException {
        private static final long serialVersionUID = 1L;
        final int number;

        Fault(int place, int why) {
            number = 1 + 8 * place + why;
        }
    }

    static final class Person {
        int height;
        int purse;
        int fee;
        int side;
        Map<Integer, Integer> thinks = new HashMap<>();

        Person copy() {
            Person p = new Person();
            p.height = height;
            p.purse = purse;
            p.fee = fee;
            p.side = side;
            p.thinks = new HashMap<>(thinks);
            return p;
        }

        int of(int o) {
            return thinks.getOrDefault(o, 10);
        }
    }

    static final class Place {
        int deep;
        int pride;
        int day;
        List<Person> people = new ArrayList<>();

        Place copy() {
            Place c = new Place();
            c.deep = deep;
            c.pride = pride;
            c.day = day;
            for (Person p : people) {
                c.people.add(p.copy());
            }
            return c;
        }

        int depth(int p, int o) {
            if (p == o) {
                return deep;
            }
            return Math.max(0, deep + people.get(p).of(o) - people.get(p).of(p));
        }

        boolean can(int p, int o) {
            Person a = people.get(p);
            if (p == o) {
                return deep <= a.height;
            }
            Person b = people.get(o);
            return a.side == b.side && depth(p, o) <= a.height && depth(o, p) <= b.height && a.purse >= b.fee;
        }

        boolean canSomehow(int p) {
            for (int o = 0; o < people.size(); o++) {
                if (can(p, o)) {
                    return true;
                }
            }
            return false;
        }

        void go(int p, int o) {
            Person a = people.get(p);
            a.side = 1 - a.side;
            a.thinks.put(p, Math.min(20, a.of(p) + pride));
            if (o != p) {
                Person b = people.get(o);
                b.side = 1 - b.side;
                b.thinks.put(o, Math.min(20, b.of(o) + pride));
                a.purse -= b.fee;
                b.purse = Math.min(9999, b.purse + b.fee);
            }
        }

        int over() {
            int n = 0;
            for (Person p : people) {
                n += p.side;
            }
            return n;
        }

        int bits() {
            int bits = 0;
            for (int p = 0; p < people.size(); p++) {
                bits |= people.get(p).side << p;
            }
            return bits;
        }

        int[] day(Rule rule) {
            int[] hires = new int[people.size()];
            Arrays.fill(hires, NONE);
            for (int p = 0; p < people.size(); p++) {
                if (people.get(p).side != 0) {
                    continue;
                }
                int with = rule == null ? plain(p) : best(p, rule);
                if (with != NONE) {
                    go(p, with);
                    hires[p] = with;
                }
            }
            day++;
            return hires;
        }

        int plain(int p) {
            if (can(p, p)) {
                return p;
            }
            for (int fee = 0; fee <= 9; fee++) {
                for (int o = 0; o < people.size(); o++) {
                    if (o != p && can(p, o) && people.get(o).fee == fee) {
                        return o;
                    }
                }
            }
            return NONE;
        }

        int best(int p, Rule rule) {
            List<Integer> order = new ArrayList<>();
            order.add(p);
            for (int o = 0; o < people.size(); o++) {
                if (o != p) {
                    order.add(o);
                }
            }
            int best = NONE;
            long most = 0;
            for (int o : order) {
                if (can(p, o)) {
                    long worth = rule.worth(new Case(this, p, o));
                    if (worth > most) {
                        most = worth;
                        best = o;
                    }
                }
            }
            return best;
        }

        Place days(Rule rule, int n) {
            for (int i = 0; i < n; i++) {
                day(rule);
            }
            return this;
        }
    }

    /** A person and whom they could go with. */
    record Case(Place place, int p, int o) {
        long word(String word) {
            Person a = place.people.get(p);
            switch (word) {
                case "person": return p;
                case "with": return o;
                case "alone": return p == o ? 1 : 0;
                case "depth": return place.depth(p, o);
                case "height": return a.height;
                case "purse": return a.purse;
                case "fee": return p == o ? 0 : place.people.get(o).fee;
                case "thinks": return a.of(o);
                case "self": return a.of(p);
                case "here": return place.people.size() - place.over();
                case "over": return place.over();
                case "day": return place.day;
                default: throw new IllegalStateException(word);
            }
        }
    }

    record Clause(ToLongFunction<Case> sum, Predicate<Case> test) { }

    record Rule(List<Clause> clauses) {
        long worth(Case c) {
            for (Clause clause : clauses) {
                if (clause.test() == null || clause.test().test(c)) {
                    return clause.sum().applyAsLong(c);
                }
            }
            return 0;
        }
    }

    /** Recursive descent over a text. */
    static final class Reader {
        static final List<String> VALUES = List.of("person", "with", "alone", "depth", "height", "purse",
                "fee", "thinks", "self", "here", "over", "day");
        final String text;
        int at;
        int pieces;

        Reader(String text) {
            this.text = text;
        }

        void blanks() {
            while (at < text.length() && text.charAt(at) == ' ') {
                at++;
            }
        }

        /** The run of signs between two that begins here, past blanks; not taken. */
        String run(char from, char to) {
            blanks();
            int end = at;
            while (end < text.length() && text.charAt(end) >= from && text.charAt(end) <= to) {
                end++;
            }
            return text.substring(at, end);
        }

        String word() {
            return run('a', 'z');
        }

        boolean take(String word) {
            if (word().equals(word)) {
                at += word.length();
                return true;
            }
            return false;
        }

        boolean sign(String sign) {
            blanks();
            if (text.startsWith(sign, at)) {
                at += sign.length();
                return true;
            }
            return false;
        }

        int number(int most) {
            String digits = run('0', '9');
            if (digits.isEmpty()) {
                throw new Fault(at, 0);
            }
            if (digits.length() > 5 || Integer.parseInt(digits) > most) {
                throw new Fault(at, 1);
            }
            at += digits.length();
            return Integer.parseInt(digits);
        }

        boolean more() {
            blanks();
            if (at == text.length()) {
                return false;
            }
            if (!sign(";")) {
                throw new Fault(at, 0);
            }
            return true;
        }

        Place ford() {
            Place place = new Place();
            int clauses = 0;
            do {
                String word = word();
                if (!List.of("ford", "person", "thinks").contains(word)) {
                    throw new Fault(at, 0);
                }
                boolean first = clauses == 0;
                if (first != word.equals("ford") || clauses == 40 || word.equals("person") && place.people.size() == 6) {
                    throw new Fault(at, 4);
                }
                clauses++;
                at += word.length();
                if (first) {
                    place.deep = number(60);
                    place.pride = number(5);
                } else if (word.equals("person")) {
                    Person p = new Person();
                    p.height = number(60);
                    p.purse = number(99);
                    p.fee = number(9);
                    place.people.add(p);
                } else {
                    int p = number(place.people.size() - 1);
                    int o = number(place.people.size() - 1);
                    place.people.get(p).thinks.put(o, number(20));
                }
            } while (more());
            return place;
        }

        Rule rule() {
            List<Clause> clauses = new ArrayList<>();
            do {
                blanks();
                int start = at;
                if (!take("go")) {
                    throw new Fault(start, 0);
                }
                if (clauses.size() == 12) {
                    throw new Fault(start, 4);
                }
                ToLongFunction<Case> sum = sum();
                clauses.add(new Clause(sum, take("if") ? test(0) : null));
            } while (more());
            return new Rule(clauses);
        }

        Predicate<Case> test(int nested) {
            Predicate<Case> all = part(nested);
            while (take("or")) {
                all = all.or(part(nested));
            }
            return all;
        }

        Predicate<Case> part(int nested) {
            Predicate<Case> all = fact(nested);
            while (take("and")) {
                all = all.and(fact(nested));
            }
            return all;
        }

        Predicate<Case> fact(int nested) {
            blanks();
            int start = at;
            if (take("not")) {
                if (nested == 10) {
                    throw new Fault(start, 2);
                }
                return fact(nested + 1).negate();
            }
            if (sign("[")) {
                if (nested == 10) {
                    throw new Fault(start, 2);
                }
                Predicate<Case> inside = test(nested + 1);
                if (!sign("]")) {
                    throw new Fault(at, 0);
                }
                return inside;
            }
            ToLongFunction<Case> left = sum();
            blanks();
            int place = at;
            String sign = null;
            for (String each : List.of("<=", ">=", "<", "=", ">")) {
                if (sign == null && sign(each)) {
                    sign = each;
                }
            }
            if (sign == null) {
                throw new Fault(at, 0);
            }
            piece(place);
            ToLongFunction<Case> right = sum();
            switch (sign) {
                case "<=": return c -> left.applyAsLong(c) <= right.applyAsLong(c);
                case ">=": return c -> left.applyAsLong(c) >= right.applyAsLong(c);
                case "<": return c -> left.applyAsLong(c) < right.applyAsLong(c);
                case ">": return c -> left.applyAsLong(c) > right.applyAsLong(c);
                default: return c -> left.applyAsLong(c) == right.applyAsLong(c);
            }
        }

        void piece(int place) {
            pieces++;
            if (pieces > 60) {
                throw new Fault(place, 3);
            }
        }

        ToLongFunction<Case> sum() {
            ToLongFunction<Case> all = term();
            while (true) {
                ToLongFunction<Case> left = all;
                if (sign("+")) {
                    ToLongFunction<Case> right = term();
                    all = c -> left.applyAsLong(c) + right.applyAsLong(c);
                } else if (sign("-")) {
                    ToLongFunction<Case> right = term();
                    all = c -> left.applyAsLong(c) - right.applyAsLong(c);
                } else {
                    return all;
                }
            }
        }

        ToLongFunction<Case> term() {
            ToLongFunction<Case> all = value();
            while (true) {
                ToLongFunction<Case> left = all;
                if (sign("*")) {
                    ToLongFunction<Case> right = value();
                    all = c -> left.applyAsLong(c) * right.applyAsLong(c);
                } else if (sign("/")) {
                    ToLongFunction<Case> right = value();
                    all = c -> right.applyAsLong(c) == 0 ? 0 : left.applyAsLong(c) / right.applyAsLong(c);
                } else if (sign("%")) {
                    ToLongFunction<Case> right = value();
                    all = c -> right.applyAsLong(c) == 0 ? 0 : left.applyAsLong(c) % right.applyAsLong(c);
                } else {
                    return all;
                }
            }
        }

        ToLongFunction<Case> value() {
            String word = word();
            int start = at;
            if (VALUES.contains(word)) {
                piece(start);
                at += word.length();
                return c -> c.word(word);
            }
            int number = number(99999);
            piece(start);
            return c -> number;
        }
    }

    /** All that an image holds. */
    static final class Whole {
        Place begin;
        Place now;
        List<int[]> notes = new ArrayList<>();
        int x;
        int forced = NONE;

        Whole copy() {
            Whole c = new Whole();
            c.begin = begin == null ? null : begin.copy();
            c.now = now == null ? null : now.copy();
            c.notes = new ArrayList<>(notes);
            c.x = x;
            c.forced = forced;
            return c;
        }
    }

    StringBuilder tape = new StringBuilder();
    List<Rule> rules = new ArrayList<>();
    Whole all = new Whole();
    Deque<Place> acts = new ArrayDeque<>();
    Whole[] images = new Whole[4];

    private Rule inForce() {
        return all.forced == NONE ? null : rules.get(all.forced);
    }

    private boolean hasFord() {
        return all.now != null;
    }

    private int size() {
        return all.now == null ? 0 : all.now.people.size();
    }

    private boolean is(int... people) {
        for (int p : people) {
            if (p < 0 || p >= size()) {
                return false;
            }
        }
        return true;
    }

    private void act() {
        acts.push(all.now.copy());
        if (acts.size() > 20) {
            acts.removeLast();
        }
    }

    int feed(int a, int b, int c, int d, int e) {
        if (tape.length() > 380) {
            return NONE;
        }
        for (int n : new int[] {a, b, c, d, e}) {
            tape.append((char) (n >>> 24)).append((char) (n >>> 16 & 255)).append((char) (n >>> 8 & 255)).append((char) (n & 255));
        }
        return tape.length();
    }

    int end(int n) {
        if (n < 0 || n > tape.length()) {
            return NONE;
        }
        tape.setLength(n);
        return n;
    }

    /** The text that was told; with a FAULT, too, the TAPE is empty behind it. */
    private String takenTape() {
        String text = tape.toString();
        tape.setLength(0);
        return text;
    }

    int ford() {
        String text = takenTape();
        try {
            Place place = new Reader(text).ford();
            all.begin = place.copy();
            all.now = place;
            all.notes.clear();
            acts.clear();
            return size();
        } catch (Fault fault) {
            return -2 - fault.number;
        }
    }

    int rule() {
        if (rules.size() == 6) {
            return NONE;
        }
        String text = takenTape();
        try {
            rules.add(new Reader(text).rule());
            return rules.size() - 1;
        } catch (Fault fault) {
            return -2 - fault.number;
        }
    }

    int force(int rule) {
        if (rule < -1 || rule >= rules.size()) {
            return -2;
        }
        int was = all.forced;
        all.forced = rule;
        return was;
    }

    int person(int person, int what) {
        if (!is(person) || what < 0 || what > 3) {
            return NONE;
        }
        Person p = all.now.people.get(person);
        return new int[] {p.height, p.purse, p.fee, p.side}[what];
    }

    int thinks(int person, int other) {
        return is(person, other) ? all.now.people.get(person).of(other) : NONE;
    }

    int depth(int person, int other) {
        return is(person, other) ? all.now.depth(person, other) : NONE;
    }

    int day() {
        if (!hasFord() || all.now.day == 999) {
            return NONE;
        }
        act();
        int before = all.now.over();
        all.now.day(inForce());
        return all.now.over() - before;
    }

    int cross(int person, int other) {
        if (!is(person, other) || !all.now.can(person, other)) {
            return NONE;
        }
        act();
        all.now.go(person, other);
        return all.now.people.get(person).side;
    }

    int remark(int person, int other, int much) {
        if (!is(person, other) || much < 0 || much > 20 || thinks(person, other) == much) {
            return NONE;
        }
        act();
        int was = thinks(person, other);
        all.now.people.get(person).thinks.put(other, much);
        return was;
    }

    int pay(int person, int other, int coins) {
        if (!is(person, other) || person == other || coins < 1 || coins > 99 || person(person, 1) < coins) {
            return NONE;
        }
        act();
        all.now.people.get(person).purse -= coins;
        all.now.people.get(other).purse += coins;
        return person(person, 1);
    }

    int flood(int deep) {
        if (!hasFord() || deep < 0 || deep > 60 || deep == all.now.deep) {
            return NONE;
        }
        act();
        int was = all.now.deep;
        all.now.deep = deep;
        return was;
    }

    int undo() {
        if (acts.isEmpty()) {
            return NONE;
        }
        all.now = acts.pop();
        return acts.size();
    }

    int ahead(int person, int n, int what) {
        if (!is(person) || n < 0 || n > 60 || what < 0 || what > 2) {
            return NONE;
        }
        Person p = all.now.copy().days(inForce(), n).people.get(person);
        return new int[] {p.side, p.purse, p.of(person)}[what];
    }

    int over() {
        if (!hasFord()) {
            return NONE;
        }
        for (int i = 0; i < 60; i++) {
            Place then = all.now.copy().days(inForce(), i);
            if (then.over() == size()) {
                return then.day;
            }
        }
        return -2;
    }

    /** Every row of whom each goes with, looked at whole. */
    int most(int what) {
        if (!hasFord() || what < 0 || what > 7) {
            return -3;
        }
        if (what >= 2 && (!is(what - 2) || person(what - 2, 3) == 1)) {
            return -2;
        }
        int n = size();
        int[] best = null;
        int bestGoing = -1;
        int bestCoins = 0;
        int rows = (int) Math.round(Math.pow(n + 2, n));
        for (int code = 0; code < rows; code++) {
            int[] key = new int[n];
            int rest = code;
            for (int p = n - 1; p >= 0; p--) {
                key[p] = rest % (n + 2);
                rest /= n + 2;
            }
            int[] with = parting(key);
            if (with == null) {
                continue;
            }
            int going = 0;
            int coins = 0;
            for (int p = 0; p < n; p++) {
                going += with[p] == NONE ? 0 : 1;
                coins += with[p] != NONE && with[p] < p ? all.now.people.get(p).fee : 0;
            }
            if (going > bestGoing || going == bestGoing && coins < bestCoins) {
                bestGoing = going;
                bestCoins = coins;
                best = with;
            }
        }
        return what == 0 ? bestGoing : what == 1 ? bestCoins : best[what - 2];
    }

    /** A key's number is 0: stays, 1: alone, 2 and more: with the one of that number less 2. */
    private int[] parting(int[] key) {
        int[] with = new int[key.length];
        for (int p = 0; p < key.length; p++) {
            with[p] = key[p] == 0 ? NONE : key[p] == 1 ? p : key[p] - 2;
            if (key[p] >= 2 && with[p] == p) {
                return null;
            }
        }
        for (int p = 0; p < key.length; p++) {
            int o = with[p];
            if (o == NONE) {
                continue;
            }
            if (person(p, 3) == 1 || with[o] != p || !all.now.can(Math.min(p, o), Math.max(p, o))) {
                return null;
            }
        }
        return with;
    }

    int fewest(int what) {
        if (!hasFord() || what < 0 || what > 2) {
            return -3;
        }
        int n = size();
        int goal = (1 << n) - 1;
        int start = all.now.bits();
        if (start == goal) {
            return what == 0 ? 0 : NONE;
        }
        List<int[]> goings = new ArrayList<>();
        for (int p = 0; p < n; p++) {
            goings.add(new int[] {p, p});
        }
        for (int p = 0; p < n; p++) {
            for (int o = 0; o < n; o++) {
                if (o != p) {
                    goings.add(new int[] {p, o});
                }
            }
        }
        Map<Integer, int[]> first = new HashMap<>();
        Map<Integer, Integer> far = new HashMap<>();
        Deque<Integer> queue = new ArrayDeque<>();
        far.put(start, 0);
        queue.add(start);
        while (!queue.isEmpty()) {
            int at = queue.remove();
            for (int[] g : goings) {
                boolean together = (at >> g[0] & 1) == (at >> g[1] & 1);
                boolean wades = all.now.depth(g[0], g[1]) <= person(g[0], 0) && all.now.depth(g[1], g[0]) <= person(g[1], 0);
                int to = at ^ (1 << g[0] | 1 << g[1]);
                if (together && wades && !far.containsKey(to)) {
                    far.put(to, far.get(at) + 1);
                    first.put(to, at == start ? g : first.get(at));
                    queue.add(to);
                }
            }
        }
        if (!far.containsKey(goal)) {
            return -2;
        }
        return what == 0 ? far.get(goal) : first.get(goal)[what - 1];
    }

    int ring(int what) {
        if (!hasFord() || what < 0 || what > 1) {
            return NONE;
        }
        List<List<Integer>> rows = new ArrayList<>();
        rows.add(new ArrayList<>());
        List<List<Integer>> rings = new ArrayList<>();
        for (int length = 1; length <= size(); length++) {
            List<List<Integer>> longer = new ArrayList<>();
            for (List<Integer> row : rows) {
                for (int p = 0; p < size(); p++) {
                    if (!row.contains(p) && (row.isEmpty() || p > row.get(0))) {
                        List<Integer> more = new ArrayList<>(row);
                        more.add(p);
                        longer.add(more);
                        if (length >= 2 && isRing(more)) {
                            rings.add(more);
                        }
                    }
                }
            }
            rows = longer;
        }
        if (rings.isEmpty()) {
            return -2;
        }
        List<Integer> best = rings.get(0);
        int set = 0;
        for (int p : best) {
            set |= 1 << p;
        }
        return what == 0 ? best.size() : set;
    }

    private boolean isRing(List<Integer> row) {
        for (int i = 0; i < row.size(); i++) {
            int p = row.get(i);
            int o = row.get((i + 1) % row.size());
            if (thinks(p, o) >= thinks(p, p)) {
                return false;
            }
        }
        return true;
    }

    int oneRemark(int what) {
        if (!hasFord() || what < 0 || what > 2) {
            return -2;
        }
        int[] best = {canGo(all.now), NONE, NONE};
        for (int p = 0; p < size(); p++) {
            for (int v = 0; v <= 20; v++) {
                if (v != thinks(p, p)) {
                    Place trial = all.now.copy();
                    trial.people.get(p).thinks.put(p, v);
                    if (canGo(trial) > best[0]) {
                        best = new int[] {canGo(trial), p, v};
                    }
                }
            }
        }
        return best[what];
    }

    private static int canGo(Place place) {
        int n = 0;
        for (int p = 0; p < place.people.size(); p++) {
            n += place.people.get(p).side == 0 && place.canSomehow(p) ? 1 : 0;
        }
        return n;
    }

    int rise(int person) {
        if (!is(person)) {
            return NONE;
        }
        for (int deep = 0; deep <= 60; deep++) {
            Place trial = all.now.copy();
            trial.deep = deep;
            if (!trial.canSomehow(person)) {
                return deep;
            }
        }
        return -2;
    }

    int fair() {
        if (!hasFord()) {
            return NONE;
        }
        int set = 0;
        for (int p = 0; p < size(); p++) {
            int deep = 0;
            for (int o = 0; o < size(); o++) {
                deep = o == p ? deep : Math.max(deep, all.now.depth(p, o));
            }
            set |= deep <= 1 ? 1 << p : 0;
        }
        return set;
    }

    int self(int person, int other) {
        if (!is(person, other) || person == other || person(person, 3) != person(other, 3)) {
            return NONE;
        }
        for (int v = 0; v <= 20; v++) {
            Place trial = all.now.copy();
            trial.people.get(person).thinks.put(person, v);
            if (trial.can(person, other)) {
                return v;
            }
        }
        return -2;
    }

    int hired(int n, int what) {
        if (!hasFord() || n < 1 || n > 30 || what < 0 || what > 1) {
            return -2;
        }
        int who = NONE;
        int most = all.now.copy().days(inForce(), n).over();
        for (int p = 0; p < size(); p++) {
            Place trial = all.now.copy();
            trial.people.get(p).fee = 0;
            int over = trial.days(inForce(), n).over();
            if (over > most) {
                most = over;
                who = p;
            }
        }
        return what == 0 ? who : most;
    }

    int rests(int one, int other, int n, int what) {
        if (!is(one, other) || one == other || n < 1 || n > 20 || what < 0 || what > 2) {
            return NONE;
        }
        int[][][] purses = new int[5][5][];
        for (int f = 0; f < 5; f++) {
            for (int g = 0; g < 5; g++) {
                Place trial = all.now.copy();
                trial.people.get(one).fee = f;
                trial.people.get(other).fee = g;
                trial.days(inForce(), n);
                purses[f][g] = new int[] {trial.people.get(one).purse, trial.people.get(other).purse};
            }
        }
        List<int[]> rests = new ArrayList<>();
        for (int f = 0; f < 5; f++) {
            for (int g = 0; g < 5; g++) {
                boolean rest = true;
                for (int h = 0; h < 5; h++) {
                    rest &= purses[h][g][0] <= purses[f][g][0] && purses[f][h][1] <= purses[f][g][1];
                }
                if (rest) {
                    rests.add(new int[] {f, g});
                }
            }
        }
        if (what == 0) {
            return rests.size();
        }
        return rests.isEmpty() ? -2 : rests.get(0)[what - 1];
    }

    int price(int one, int other) {
        if (!is(one, other) || one == other || person(one, 3) + person(other, 3) > 0 || all.now.can(other, other)) {
            return NONE;
        }
        int best = -2;
        for (int fee = 0; fee <= 9; fee++) {
            Place trial = all.now.copy();
            trial.people.get(one).fee = fee;
            if (trial.day(inForce())[other] == one) {
                best = fee;
            }
        }
        return best;
    }

    int note(int n, int person, int side) {
        if (n == -1) {
            all.notes.clear();
            return 0;
        }
        if (n < 0 || n > 60 || !is(person) || side < 0 || side > 1 || all.notes.size() == 10) {
            return -2;
        }
        all.notes.add(new int[] {n, person, side});
        return all.notes.size();
    }

    private List<Integer> fitting() {
        List<Integer> fit = new ArrayList<>();
        for (int r = -1; r < rules.size(); r++) {
            boolean fits = true;
            for (int[] note : all.notes) {
                Place then = all.begin.copy().days(r < 0 ? null : rules.get(r), note[0] + 1);
                fits &= then.people.get(note[1]).side == note[2];
            }
            if (fits) {
                fit.add(r);
            }
        }
        return fit;
    }

    int ruled(int what) {
        if (!hasFord() || what < 0 || what > 1) {
            return -3;
        }
        List<Integer> fit = fitting();
        return what == 0 ? fit.size() : fit.isEmpty() ? -2 : fit.get(0);
    }

    int look(int what) {
        if (!hasFord() || what < 0 || what > 1) {
            return NONE;
        }
        List<Integer> fit = fitting();
        if (fit.isEmpty()) {
            return -2;
        }
        int best = NONE;
        int fewest = 99;
        for (int d = 0; d <= 60; d++) {
            Map<Integer, Integer> groups = new HashMap<>();
            for (int r : fit) {
                groups.merge(all.begin.copy().days(r < 0 ? null : rules.get(r), d + 1).bits(), 1, Integer::sum);
            }
            int most = groups.values().stream().max(Integer::compare).get();
            if (most < fewest) {
                fewest = most;
                best = d;
            }
        }
        return what == 0 ? best : fewest;
    }

    int seed(int x) {
        if (x < 0) {
            return NONE;
        }
        int was = all.x;
        all.x = x;
        return was;
    }

    int fairs(int m, int n, int p, int what) {
        if (!hasFord() || m < 1 || m > 10 || n < 1 || n > 60 || p < 0 || p > 100 || what < 0 || what > 1) {
            return NONE;
        }
        long[] x = {all.x};
        int over = 0;
        int coins = 0;
        for (int i = 0; i < m; i++) {
            Place trial = all.now.copy();
            for (int d = 0; d < n; d++) {
                if (draw(x) % 100 < p && size() > 0) {
                    int who = draw(x) % size();
                    trial.people.get(who).thinks.put(who, draw(x) % 21);
                }
                trial.day(inForce());
            }
            over += trial.over();
            for (Person q : trial.people) {
                coins += q.side == 1 ? q.purse : 0;
            }
        }
        return what == 0 ? over : coins;
    }

    private static int draw(long[] x) {
        x[0] = (x[0] * 1103515245L + 12345L) % 2147483648L;
        return (int) (x[0] / 65536);
    }

    int count(int what) {
        Place p = all.now == null ? new Place() : all.now;
        int coins = 0;
        for (Person q : p.people) {
            coins += q.purse;
        }
        int[] all12 = {p.deep, p.pride, p.people.size(), rules.size(), all.forced, p.day, p.bits(), coins,
            all.notes.size(), acts.size(), all.x, tape.length()};
        return what < 0 || what > 11 ? NONE : all12[what];
    }

    int image(int k) {
        if (k < 0 || k > 3) {
            return NONE;
        }
        images[k] = all.copy();
        return all.now == null ? 0 : all.now.day;
    }

    int back(int k) {
        if (k < 0 || k > 3 || images[k] == null) {
            return NONE;
        }
        all = images[k].copy();
        acts.clear();
        return all.now == null ? 0 : all.now.day;
    }
}
