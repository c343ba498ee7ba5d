import java.util.ArrayDeque;
import java.util.ArrayList;
import java.util.Deque;
import java.util.HashSet;
import java.util.List;
import java.util.NoSuchElementException;
import java.util.Set;
import java.util.function.ToIntBiFunction;
import java.util.function.BiPredicate;

/**
 * The document once more, written as plainly as can be and without a thought of room or speed: another way to the same
 * answers, for runs of random calls. Methods bear the names of the face.
 */
final class Model {
    static final class Wrong extends RuntimeException {
        private static final long serialVersionUID = 1L;
        final int at;

        Wrong(int at) {
            this.at = at;
        }
    }

    static final class Person {
        int belief;
        int purse;
        int shares;
        int till = -1;
        boolean dry;
        int[] trust = new int[8];

        boolean here() {
            return till < 0;
        }
    }

    static final class Work {
        int cost;
        int need;
        int gain;
        int state;
    }

    static final class LawLine {
        int by;
        BiPredicate<State, Integer> when;
    }

    static final class State {
        List<Person> people = new ArrayList<>();
        List<Work> works = new ArrayList<>();
        List<int[]> log = new ArrayList<>();
        List<LawLine> law;
        int chest = 20;
        int journey = 6;
        int truth = 50;
        int day;
        int seed = 1;
        int texts;

        State copy() {
            State s = new State();
            for (Person p : people) {
                Person q = new Person();
                q.belief = p.belief;
                q.purse = p.purse;
                q.shares = p.shares;
                q.till = p.till;
                q.dry = p.dry;
                q.trust = p.trust.clone();
                s.people.add(q);
            }
            for (Work w : works) {
                Work v = new Work();
                v.cost = w.cost;
                v.need = w.need;
                v.gain = w.gain;
                v.state = w.state;
                s.works.add(v);
            }
            s.log.addAll(log);
            s.law = law;
            s.chest = chest;
            s.journey = journey;
            s.truth = truth;
            s.day = day;
            s.seed = seed;
            s.texts = texts;
            return s;
        }

        int here() {
            return (int) people.stream().filter(Person::here).count();
        }

        int believed() {
            return people.stream().filter(Person::here).mapToInt(p -> p.belief).sum();
        }

        int mean() {
            return here() == 0 ? 0 : believed() / here();
        }

        int price() {
            return here() == 0 ? 1 : mean() * mean() / 50 + 1;
        }

        int pull(int who) {
            int sum = 0;
            for (int i = 0; i < people.size(); i++) {
                if (i != who && people.get(i).here()) {
                    sum += people.get(who).trust[i] * (people.get(i).belief - people.get(who).belief);
                }
            }
            return (int) (sum / 40.0);
        }

        int turns(int who) {
            if (law == null) {
                return people.get(who).dry ? -1 : 0;
            }
            return law.stream().filter(l -> l.when.test(this, who)).mapToInt(l -> l.by).sum();
        }

        int pass(boolean tales) {
            int[] next = new int[people.size()];
            for (int i = 0; i < next.length; i++) {
                int b = people.get(i).belief;
                next[i] = people.get(i).here() ? clamp(b + pull(i) + turns(i)) : b;
            }
            for (int i = 0; i < next.length; i++) {
                people.get(i).belief = next[i];
            }
            int fell = 0;
            for (int i = 0; i < works.size(); i++) {
                Work w = works.get(i);
                if (w.state == 0) {
                    if (believed() >= w.need && chest >= w.cost) {
                        w.state = 1;
                        chest -= w.cost;
                        note(i, 0);
                    }
                } else if (w.state == 1) {
                    if (believed() < w.need) {
                        w.state = 2;
                        fell++;
                        note(i, 1);
                    } else {
                        chest = Math.min(9999, chest + w.gain);
                    }
                }
            }
            for (int i = 0; i < people.size(); i++) {
                Person p = people.get(i);
                if (!p.here() && p.till <= day) {
                    p.till = -1;
                    if (tales) {
                        seed = seed * 1103515245 + 12345;
                        boolean water = ((seed >>> 16) & 0x7fff) % 100 < truth;
                        for (int j = 0; j < people.size(); j++) {
                            Person q = people.get(j);
                            if (j != i && q.here()) {
                                q.belief = clamp(q.belief + (water ? 1 : -1) * q.trust[i]);
                            }
                        }
                        p.belief = water ? 99 : 0;
                        note(i, water ? 2 : 3);
                    }
                }
            }
            day = Math.min(9999, day + 1);
            return fell;
        }

        private void note(int which, int kind) {
            log.add(new int[] {day, which, kind, believed()});
            if (log.size() > 60) {
                log.remove(0);
            }
        }

        static int clamp(int b) {
            return b < 0 ? 0 : b > 99 ? 99 : b;
        }

        int works(int state) {
            int bits = 0;
            for (int i = 0; i < works.size(); i++) {
                bits |= works.get(i).state == state ? 1 << i : 0;
            }
            return bits;
        }

        int doubts() {
            int bits = 0;
            for (int i = 0; i < people.size(); i++) {
                bits |= people.get(i).here() && people.get(i).belief < 33 ? 1 << i : 0;
            }
            return bits;
        }
    }

    private State s = new State();
    private State image;
    private Deque<State> acts = new ArrayDeque<>();
    private List<Integer> tape = new ArrayList<>();
    private int fault = -1;

    // ---- the tape and texts

    int feed(int a, int b, int c, int d, int e) {
        if (tape.size() + 20 > 400) {
            return -1;
        }
        for (int n : new int[] {a, b, c, d, e}) {
            for (int i = 3; i >= 0; i--) {
                tape.add((n >> 8 * i) & 255);
            }
        }
        return tape.size();
    }

    boolean end(int n) {
        if (n < 0 || n > tape.size()) {
            return false;
        }
        tape = new ArrayList<>(tape.subList(0, n));
        return true;
    }

    private List<Integer> used() {
        List<Integer> was = tape;
        tape = new ArrayList<>();
        return was;
    }

    private String usedText() {
        StringBuilder text = new StringBuilder();
        used().forEach(b -> text.append((char) (int) b));
        return text.toString();
    }

    /** Things of a text: the text of each one, and where it begins. The last one is empty: the end. */
    private static final class Things {
        final List<String> texts = new ArrayList<>();
        final List<Integer> begins = new ArrayList<>();
        int at;

        Things(String text) {
            java.util.regex.Matcher m = java.util.regex.Pattern.compile("[a-z]+|[0-9]+|[^ ]", java.util.regex.Pattern.DOTALL)
                    .matcher(text);
            while (m.find()) {
                texts.add(m.group());
                begins.add(m.start());
            }
            texts.add("");
            begins.add(text.length());
        }

        String now() {
            return texts.get(at);
        }

        boolean atEnd() {
            return at == texts.size() - 1;
        }

        Wrong wrong() {
            return new Wrong(begins.get(at));
        }

        boolean take(String thing) {
            if (!now().equals(thing)) {
                return false;
            }
            at++;
            return true;
        }

        void need(String thing) {
            if (!take(thing)) {
                throw wrong();
            }
        }

        int number(int least, int most) {
            if (!now().matches("[0-9]{1,3}") || Integer.parseInt(now()) < least || Integer.parseInt(now()) > most) {
                throw wrong();
            }
            return Integer.parseInt(texts.get(at++));
        }
    }

    private interface LineOf {
        void read();
    }

    private static int lines(Things t, int most, LineOf line) {
        if (t.atEnd()) {
            return 0;
        }
        int n = 0;
        do {
            if (++n > most) {
                throw t.wrong();
            }
            line.read();
        } while (t.take(";"));
        if (!t.atEnd()) {
            throw t.wrong();
        }
        return n;
    }

    int town() {
        Things t = new Things(usedText());
        State draft = s.copy();
        try {
            lines(t, 14, () -> townLine(t, draft));
            fault = -1;
        } catch (Wrong e) {
            fault = e.at;
            throw new IllegalArgumentException();
        }
        if (s.texts == 12) {
            throw new UnsupportedOperationException();
        }
        draft.texts++;
        s = draft;
        acts.clear();
        return s.texts;
    }

    private static void townLine(Things t, State d) {
        String word = t.now();
        if (word.equals("person") && d.people.size() == 8 || word.equals("work") && d.works.size() == 6) {
            throw t.wrong();
        }
        if (!List.of("person", "trusts", "work", "chest", "journey", "truth", "shares", "day").contains(word)) {
            throw t.wrong();
        }
        t.at++;
        switch (word) {
            case "person" -> {
                Person p = new Person();
                p.belief = t.number(0, 99);
                t.need("purse");
                p.purse = t.number(0, 999);
                p.dry = t.take("dry");
                d.people.add(p);
            }
            case "work" -> {
                Work w = new Work();
                w.cost = t.number(1, 99);
                t.need("need");
                w.need = t.number(0, 799);
                t.need("gain");
                w.gain = t.number(0, 20);
                d.works.add(w);
            }
            case "trusts" -> {
                int who = t.number(0, d.people.size() - 1);
                if (!t.now().matches("[0-9]{" + d.people.size() + "}")) {
                    throw t.wrong();
                }
                for (int i = 0; i < d.people.size(); i++) {
                    d.people.get(who).trust[i] = i == who ? 0 : t.now().charAt(i) - '0';
                }
                t.at++;
            }
            case "shares" -> {
                int who = t.number(0, d.people.size() - 1);
                d.people.get(who).shares = t.number(0, 99);
            }
            case "chest" -> d.chest = t.number(0, 999);
            case "journey" -> d.journey = t.number(1, 30);
            case "truth" -> d.truth = t.number(0, 100);
            default -> d.day = t.number(0, 999);
        }
    }

    int law() {
        Things t = new Things(usedText());
        List<LawLine> draft = new ArrayList<>();
        try {
            lines(t, 12, () -> draft.add(lawLine(t)));
            fault = -1;
        } catch (Wrong e) {
            fault = e.at;
            throw new IllegalArgumentException();
        }
        s.law = draft;
        acts.clear();
        return draft.size();
    }

    private static LawLine lawLine(Things t) {
        LawLine line = new LawLine();
        int sign = t.now().equals("raise") ? 1 : t.now().equals("lower") ? -1 : 0;
        if (sign == 0) {
            throw t.wrong();
        }
        t.at++;
        line.by = sign * t.number(0, 30);
        line.when = t.take("if") ? any(t, 0) : (state, who) -> true;
        return line;
    }

    private static BiPredicate<State, Integer> any(Things t, int deep) {
        BiPredicate<State, Integer> left = all(t, deep);
        while (t.take("or")) {
            left = left.or(all(t, deep));
        }
        return left;
    }

    private static BiPredicate<State, Integer> all(Things t, int deep) {
        BiPredicate<State, Integer> left = atom(t, deep);
        while (t.take("and")) {
            left = left.and(atom(t, deep));
        }
        return left;
    }

    private static BiPredicate<State, Integer> atom(Things t, int deep) {
        if (deep == 6 && (t.now().equals("not") || t.now().equals("("))) {
            throw t.wrong();
        }
        if (t.take("not")) {
            return atom(t, deep + 1).negate();
        }
        if (t.take("(")) {
            BiPredicate<State, Integer> inner = any(t, deep + 1);
            t.need(")");
            return inner;
        }
        if (t.take("dry")) {
            return (state, who) -> state.people.get(who).dry;
        }
        if (t.take("owner")) {
            return (state, who) -> state.people.get(who).shares > 0;
        }
        ToIntBiFunction<State, Integer> left = sum(t);
        boolean less = t.now().equals("<");
        if (!less) {
            if (!t.now().equals(">")) {
                throw t.wrong();
            }
        }
        t.at++;
        ToIntBiFunction<State, Integer> right = sum(t);
        return (state, who) -> less ? left.applyAsInt(state, who) < right.applyAsInt(state, who)
                : left.applyAsInt(state, who) > right.applyAsInt(state, who);
    }

    private static ToIntBiFunction<State, Integer> sum(Things t) {
        List<ToIntBiFunction<State, Integer>> parts = new ArrayList<>();
        do {
            parts.add(part(t));
        } while (t.take("+"));
        return (state, who) -> parts.stream().mapToInt(p -> p.applyAsInt(state, who)).sum();
    }

    private static ToIntBiFunction<State, Integer> part(Things t) {
        String word = t.now();
        switch (word) {
            case "who":
                t.at++;
                return (state, who) -> who;
            case "belief":
                t.at++;
                return (state, who) -> state.people.get(who).belief;
            case "mean":
                t.at++;
                return (state, who) -> state.mean();
            case "works":
                t.at++;
                return (state, who) -> Integer.bitCount(state.works(1));
            case "ties":
                t.at++;
                return (state, who) -> {
                    int n = 0;
                    for (int i = 0; i < state.people.size(); i++) {
                        n += i != who && state.people.get(who).trust[i] > 0 ? 1 : 0;
                    }
                    return n;
                };
            case "day":
                t.at++;
                return (state, who) -> state.day;
            default:
                int n = t.number(0, 999);
                return (state, who) -> n;
        }
    }

    int fault() {
        return fault;
    }

    // ---- what is asked for first

    private void person(int who) {
        if (who < 0 || who >= s.people.size()) {
            throw new IndexOutOfBoundsException();
        }
    }

    private void two(int a, int b) {
        person(a);
        person(b);
        if (a == b) {
            throw new IllegalArgumentException();
        }
    }

    private void work(int work) {
        if (work < 0 || work >= s.works.size()) {
            throw new IndexOutOfBoundsException();
        }
    }

    private static void within(int n, int least, int most) {
        if (n < least || n > most) {
            throw new IllegalArgumentException();
        }
    }

    private static void can(boolean can) {
        if (!can) {
            throw new IllegalStateException();
        }
    }

    private void act() {
        acts.addLast(s.copy());
        if (acts.size() > 12) {
            acts.removeFirst();
        }
    }

    int person(int who, int what) {
        person(who);
        Person p = s.people.get(who);
        return switch (what) {
            case 0 -> p.belief;
            case 1 -> p.purse;
            case 2 -> p.shares;
            case 3 -> p.dry ? 1 : 0;
            case 4 -> p.till;
            case 5 -> s.pull(who);
            case 6 -> s.turns(who);
            case 7 -> p.purse + p.shares * s.price();
            case 8 -> !p.here() || s.believed() == 0 ? 0 : 100 * p.belief / s.believed();
            default -> throw new NoSuchElementException();
        };
    }

    int trust(int who, int other) {
        two(who, other);
        return s.people.get(who).trust[other];
    }

    int work(int work, int what) {
        work(work);
        Work w = s.works.get(work);
        return switch (what) {
            case 0 -> w.cost;
            case 1 -> w.need;
            case 2 -> w.gain;
            case 3 -> w.state;
            default -> throw new NoSuchElementException();
        };
    }

    int price() {
        return s.price();
    }

    // ---- acts

    int tell(int who) {
        person(who);
        can(s.people.get(who).here());
        act();
        return s.people.get(who).belief = Math.min(99, s.people.get(who).belief + 20);
    }

    int tie(int who, int other, int n) {
        two(who, other);
        within(n, 0, 9);
        act();
        int was = s.people.get(who).trust[other];
        s.people.get(who).trust[other] = n;
        return was;
    }

    void plan(int work) {
        work(work);
        can(s.works.get(work).state == 2);
        act();
        s.works.get(work).state = 0;
    }

    int send(int who) {
        person(who);
        can(s.people.get(who).here());
        act();
        return s.people.get(who).till = s.day + s.journey;
    }

    int buy(int who, int n) {
        person(who);
        within(n, 1, 99);
        Person p = s.people.get(who);
        can(p.shares + n <= 99);
        can(p.purse >= n * s.price());
        act();
        p = s.people.get(who);
        int paid = n * s.price();
        p.shares += n;
        p.purse -= paid;
        s.chest = Math.min(9999, s.chest + paid);
        return p.purse;
    }

    int sell(int who, int n) {
        person(who);
        within(n, 1, 99);
        Person p = s.people.get(who);
        can(p.shares >= n);
        can(s.chest >= n * s.price());
        act();
        int paid = n * s.price();
        p.shares -= n;
        s.chest -= paid;
        p.purse = Math.min(9999, p.purse + paid);
        return p.purse;
    }

    boolean dry(int who, boolean is) {
        person(who);
        act();
        boolean was = s.people.get(who).dry;
        s.people.get(who).dry = is;
        return was != is;
    }

    int days(int n) {
        within(n, 1, 60);
        act();
        int fell = 0;
        for (int i = 0; i < n; i++) {
            fell += s.pass(true);
        }
        return fell;
    }

    // ---- what is to come

    private State after(State from, int n) {
        State t = from.copy();
        for (int i = 0; i < n; i++) {
            t.pass(false);
        }
        return t;
    }

    int ahead(int who, int n) {
        person(who);
        within(n, 0, 100);
        return after(s, n).people.get(who).belief;
    }

    int then(int n, boolean chest) {
        within(n, 0, 100);
        State t = after(s, n);
        return chest ? t.chest : t.believed();
    }

    int sways(int who, int n) {
        person(who);
        within(n, 0, 30);
        State t = s.copy();
        t.people.get(who).belief = Math.min(99, t.people.get(who).belief + 10);
        return after(t, n).believed() - after(s, n).believed();
    }

    int guru(int n) {
        within(n, 0, 30);
        int best = -1;
        for (int i = s.people.size() - 1; i >= 0; i--) {
            if (s.people.get(i).here() && (best < 0 || sways(i, n) >= sways(best, n))) {
                best = i;
            }
        }
        return best;
    }

    int must(int x, int n) {
        within(x, 1, 792);
        within(n, 0, 30);
        int best = -1;
        sets:
        for (int set = 0; set < 1 << s.people.size(); set++) {
            State t = s.copy();
            for (int i = 0; i < s.people.size(); i++) {
                if ((set & 1 << i) != 0) {
                    if (!s.people.get(i).here()) {
                        continue sets;
                    }
                    t.people.get(i).belief = Math.min(99, t.people.get(i).belief + 20);
                }
            }
            if ((best < 0 || Integer.bitCount(set) < Integer.bitCount(best)) && after(t, n).believed() >= x) {
                best = set;
            }
        }
        return best;
    }

    int reaches(int x) {
        within(x, 1, 792);
        for (int n = 0; n <= 100; n++) {
            if (after(s, n).believed() >= x) {
                return n;
            }
        }
        return -1;
    }

    int doubts() {
        return s.doubts();
    }

    int ruin() {
        for (int n = 0; n <= 100; n++) {
            State t = after(s, n);
            if (t.here() > 0 && Integer.bitCount(t.doubts()) * 3 >= t.here() * 2) {
                return n;
            }
        }
        return -1;
    }

    int dearest(int n, boolean much) {
        within(n, 0, 100);
        int best = n;
        for (int i = n; i >= 0; i--) {
            if (after(s, i).price() >= after(s, best).price()) {
                best = i;
            }
        }
        return much ? after(s, best).price() : best;
    }

    int falls(int n) {
        within(n, 0, 100);
        return after(s, n).works(2) & ~s.works(2);
    }

    int chosen(boolean much) {
        int best = -1;
        int most = -1;
        sets:
        for (int set = 0; set < 1 << s.works.size(); set++) {
            int cost = 0;
            int gain = 0;
            for (int i = 0; i < s.works.size(); i++) {
                if ((set & 1 << i) != 0) {
                    Work w = s.works.get(i);
                    if (w.state != 0 || w.need > s.believed()) {
                        continue sets;
                    }
                    cost += w.cost;
                    gain += w.gain;
                }
            }
            if (cost <= s.chest && gain > most) {
                best = set;
                most = gain;
            }
        }
        return much ? most : best;
    }

    // ---- riddles

    private List<Integer> tales(int r) {
        List<Integer> tales = used();
        within(r, 0, 100);
        within(tales.size(), 0, 12);
        tales.forEach(b -> within(b, 0, 1));
        return tales;
    }

    private static int odds(int r, List<Integer> tales) {
        java.math.BigInteger is = java.math.BigInteger.valueOf(r);
        java.math.BigInteger not = java.math.BigInteger.valueOf(100 - r);
        for (int tale : tales) {
            is = is.multiply(java.math.BigInteger.valueOf(tale == 1 ? 9 : 1));
            not = not.multiply(java.math.BigInteger.valueOf(tale == 1 ? 1 : 9));
        }
        return is.multiply(java.math.BigInteger.valueOf(10000)).divide(is.add(not)).intValue();
    }

    int river(int r) {
        return odds(r, tales(r));
    }

    int more(int r) {
        List<Integer> tales = tales(r);
        for (int n = 0; n <= 20; n++) {
            if (odds(r, tales) >= 9900) {
                return n;
            }
            tales.add(1);
        }
        return -1;
    }

    private Set<Integer> honest() {
        List<Integer> said = used();
        within(said.size(), 0, 36);
        within(said.size() % 3, 0, 0);
        for (int i = 0; i < said.size(); i += 3) {
            within(said.get(i), 0, s.people.size() - 1);
            within(said.get(i + 1), 0, s.people.size() - 1);
            within(said.get(i + 2), 0, 1);
            if (said.get(i).intValue() == said.get(i + 1)) {
                throw new IllegalArgumentException();
            }
        }
        Set<Integer> sets = new HashSet<>();
        sets:
        for (int set = 0; set < 1 << s.people.size(); set++) {
            for (int i = 0; i < said.size(); i += 3) {
                boolean who = (set & 1 << said.get(i)) != 0;
                boolean whom = (set & 1 << said.get(i + 1)) != 0;
                boolean says = said.get(i + 2) == 1;
                if (who ? says != whom : says == whom) {
                    continue sets;
                }
            }
            sets.add(set);
        }
        return sets;
    }

    int liars(boolean sure) {
        Set<Integer> sets = honest();
        return !sure ? sets.size() : sets.stream().reduce((a, b) -> a & b).orElse(0);
    }

    int ask() {
        Set<Integer> sets = honest();
        int best = -1;
        long least = 0;
        if (sets.size() < 2 || s.people.size() < 2) {
            return -1;
        }
        for (int q = 0; q < 80; q++) {
            int a = q / 10;
            int b = q % 10;
            if (a < s.people.size() && b < s.people.size() && a != b) {
                long yes = sets.stream().filter(h -> (h >> a & 1) == 1 ? (h >> b & 1) == 1 : (h >> b & 1) == 0).count();
                long part = Math.max(yes, sets.size() - yes);
                if (best < 0 || part < least) {
                    best = q;
                    least = part;
                }
            }
        }
        return best;
    }

    // ---- ties

    /** The fewest steps of each one's word to each other one; 99 where it never comes. */
    private int[][] steps() {
        int n = s.people.size();
        int[][] d = new int[n][n];
        for (int i = 0; i < n; i++) {
            for (int j = 0; j < n; j++) {
                d[i][j] = i == j ? 0 : s.people.get(j).trust[i] > 0 ? 1 : 99;
            }
        }
        for (int k = 0; k < n; k++) {
            for (int i = 0; i < n; i++) {
                for (int j = 0; j < n; j++) {
                    d[i][j] = Math.min(d[i][j], d[i][k] + d[k][j]);
                }
            }
        }
        return d;
    }

    int word(int who) {
        person(who);
        int bits = 0;
        for (int i = 0; i < s.people.size(); i++) {
            bits |= i != who && steps()[who][i] < 99 ? 1 << i : 0;
        }
        return bits;
    }

    int steps(int who, int other) {
        two(who, other);
        return steps()[who][other] < 99 ? steps()[who][other] : -1;
    }

    int circles() {
        Set<Integer> circles = new HashSet<>();
        int[][] d = steps();
        for (int i = 0; i < d.length; i++) {
            int set = 0;
            for (int j = 0; j < d.length; j++) {
                set |= d[i][j] < 99 && d[j][i] < 99 ? 1 << j : 0;
            }
            if (Integer.bitCount(set) > 1) {
                circles.add(set);
            }
        }
        return circles.size();
    }

    int hermits() {
        int bits = 0;
        for (int i = 0; i < s.people.size(); i++) {
            boolean alone = true;
            for (int j = 0; j < s.people.size(); j++) {
                alone &= i == j || s.people.get(i).trust[j] == 0 && s.people.get(j).trust[i] == 0;
            }
            bits |= alone ? 1 << i : 0;
        }
        return bits;
    }

    int rests(int teller, int dry) {
        two(teller, dry);
        int t = s.people.get(teller).trust[dry];
        int[] rise = {5, 20, -10, 0};
        int bits = 0;
        for (int c = 0; c < 4; c++) {
            int o = c ^ 2;
            int p = c ^ 1;
            boolean tellerRests = rise[c] - (c < 2 ? 4 : 0) >= rise[o] - (o < 2 ? 4 : 0);
            boolean dryRests = -rise[c] - (c % 2 == 0 ? t : 0) >= -rise[p] - (p % 2 == 0 ? t : 0);
            bits |= tellerRests && dryRests ? 1 << c : 0;
        }
        return bits;
    }

    int richest() {
        int best = -1;
        for (int i = s.people.size() - 1; i >= 0; i--) {
            best = best < 0 || person(i, 7) >= person(best, 7) ? i : best;
        }
        return best;
    }

    int firmest() {
        int best = -1;
        for (int i = s.people.size() - 1; i >= 0; i--) {
            if (s.people.get(i).here()) {
                best = best < 0 || person(i, 0) >= person(best, 0) ? i : best;
            }
        }
        return best;
    }

    int last(int work) {
        work(work);
        for (int n = 0; n <= 100; n++) {
            if (after(s, n).works.get(work).state == 2) {
                return n;
            }
        }
        return -1;
    }

    /** Lets days pass until somebody is back: on which day that was. */
    int home() {
        State t = s.copy();
        int here = t.here();
        for (int i = 0; i < 10100 && here < t.people.size(); i++) {
            int day = t.day;
            t.pass(false);
            if (t.here() > here) {
                return day;
            }
        }
        return -1;
    }

    private State tried(int seed, int n) {
        State t = s.copy();
        t.seed = seed;
        for (int i = 0; i < n; i++) {
            t.pass(true);
        }
        return t;
    }

    int trial(int n, boolean chest) {
        within(n, 0, 60);
        return chest ? tried(s.seed, n).chest : tried(s.seed, n).believed();
    }

    int span(int n, boolean most) {
        within(n, 0, 60);
        List<Integer> all = new ArrayList<>();
        for (int seed = 1; seed <= 6; seed++) {
            all.add(tried(seed, n).believed());
        }
        return most ? all.stream().max(Integer::compare).orElseThrow() : all.stream().min(Integer::compare).orElseThrow();
    }

    int led(int work, boolean day) {
        work(work);
        int n = 0;
        int when = -1;
        for (int[] row : s.log) {
            if (row[2] < 2 && row[1] == work) {
                n++;
                when = row[0];
            }
        }
        return day ? when : n;
    }

    int log(int ago, int what) {
        if (what < 0 || what > 3) {
            throw new NoSuchElementException();
        }
        return ago < 0 || ago >= s.log.size() ? -1 : s.log.get(s.log.size() - 1 - ago)[what];
    }

    int seed(int n) {
        int was = s.seed;
        s.seed = n;
        return was;
    }

    boolean undo() {
        if (acts.isEmpty()) {
            return false;
        }
        s = acts.removeLast();
        return true;
    }

    void image() {
        image = s.copy();
    }

    boolean back() {
        if (image == null) {
            return false;
        }
        s = image.copy();
        acts.clear();
        return true;
    }

    int count(int what) {
        int here = 0;
        for (int i = 0; i < s.people.size(); i++) {
            here |= s.people.get(i).here() ? 1 << i : 0;
        }
        return switch (what) {
            case 0 -> s.people.size();
            case 1 -> s.works.size();
            case 2 -> s.texts;
            case 3 -> s.law == null ? -1 : s.law.size();
            case 4 -> s.day;
            case 5 -> s.chest;
            case 6 -> s.believed();
            case 7 -> here;
            case 8 -> s.works(1);
            case 9 -> s.works(2);
            case 10 -> s.people.stream().mapToInt(p -> p.shares).sum();
            case 11 -> s.log.size();
            case 12 -> acts.size();
            default -> -1;
        };
    }
}
