import java.util.NoSuchElementException;

/** A town that lives on the rumour of a river: what each call does is told, promise by promise, in the document. */
public final class DryRiver {
    public static final int NONE = -1;

    private static final int MOST_BYTES = 400;
    private static final int MOST_PEOPLE = 8;
    private static final int MOST_WORKS = 6;
    private static final int MOST_TEXTS = 12;
    private static final int MOST_TOWN_LINES = 14;
    private static final int MOST_LAW_LINES = 12;
    private static final int MOST_ROWS = 60;
    private static final int ROW = 4;
    private static final int MOST_ACTS = 12;
    private static final int MOST_DEEP = 6;
    private static final int MOST_TALES = 12;
    private static final int MOST_SAID = 36;

    private static final int MOST_BELIEF = 99;
    private static final int MOST_MONEY = 9999;
    private static final int MOST_SHARES = 99;
    private static final int MOST_DAY = 9999;
    private static final int MOST_BELIEVED = 792;
    private static final int DOUBT = 33;
    private static final int TOLD = 20;
    private static final int SWAY = 10;

    private static final int FAR = 100;
    private static final int NEAR = 30;
    private static final int LONG = 60;

    private static final int PLANNED = 0;
    private static final int STANDS = 1;
    private static final int FALLEN = 2;

    private static final int ROW_STANDS = 0;
    private static final int ROW_FALLS = 1;
    private static final int ROW_WATER = 2;
    private static final int ROW_NO_WATER = 3;

    private final Tape tape;
    private final Town town;
    private final Law law;
    private final Log log;
    private final TownText townText;
    private final LawText lawText;
    private final Memory memory;
    private final Foresight foresight;
    private final Riddles riddles;
    private int fault;

    public DryRiver() {
        tape = new Tape();
        town = new Town();
        law = new Law();
        log = new Log();
        townText = new TownText(tape);
        lawText = new LawText(tape);
        memory = new Memory();
        foresight = new Foresight(town, law);
        riddles = new Riddles();
        fault = NONE;
    }

    public int feed(int a, int b, int c, int d, int e) {
        if (tape.size > MOST_BYTES - 20) {
            return NONE;
        }
        tape.add(a);
        tape.add(b);
        tape.add(c);
        tape.add(d);
        tape.add(e);
        return tape.size;
    }

    public boolean end(int n) {
        if (n < 0 || n > tape.size) {
            return false;
        }
        tape.size = n;
        return true;
    }

    public int town() throws IllegalArgumentException, UnsupportedOperationException {
        tape.open(tape.useUp());
        townText.draft.copyFrom(town);
        int lines = townText.readLines(MOST_TOWN_LINES);
        fault = tape.fault;
        if (lines == NONE) {
            throw new IllegalArgumentException("the text of the town is wrong");
        }
        if (town.texts >= MOST_TEXTS) {
            throw new UnsupportedOperationException("there are as many texts as can be");
        }
        town.copyFrom(townText.draft);
        town.texts++;
        memory.forget();
        return town.texts;
    }

    public int law() throws IllegalArgumentException {
        tape.open(tape.useUp());
        lawText.draft.clear();
        int lines = lawText.readLines(MOST_LAW_LINES);
        fault = tape.fault;
        if (lines == NONE) {
            throw new IllegalArgumentException("the text of the law is wrong");
        }
        lawText.draft.lines = lines;
        law.copyFrom(lawText.draft);
        memory.forget();
        return lines;
    }

    public int fault() {
        return fault;
    }

    public int person(int person, int what) throws IndexOutOfBoundsException, NoSuchElementException {
        needPerson(person);
        switch (what) {
            case 0:
                return town.belief[person];
            case 1:
                return town.purse[person];
            case 2:
                return town.shares[person];
            case 3:
                return town.dry[person] ? 1 : 0;
            case 4:
                return town.till[person];
            case 5:
                return town.pullOf(person);
            case 6:
                return town.turnsOf(person, law);
            case 7:
                return town.worthOf(person);
            case 8:
                return town.shareOf(person);
            default:
                throw new NoSuchElementException("a person has no such thing");
        }
    }

    public int trust(int person, int other) throws IndexOutOfBoundsException, IllegalArgumentException {
        needTwo(person, other);
        return town.trustOf(person, other);
    }

    public int work(int work, int what) throws IndexOutOfBoundsException, NoSuchElementException {
        needWork(work);
        switch (what) {
            case 0:
                return town.cost[work];
            case 1:
                return town.need[work];
            case 2:
                return town.gain[work];
            case 3:
                return town.state[work];
            default:
                throw new NoSuchElementException("a work has no such thing");
        }
    }

    public int price() {
        return town.sharePrice();
    }

    public int tell(int person) throws IndexOutOfBoundsException, IllegalStateException {
        needPerson(person);
        needHere(person);
        memory.remember(town, log);
        town.raise(person, TOLD);
        return town.belief[person];
    }

    public int tie(int person, int other, int n) throws IndexOutOfBoundsException, IllegalArgumentException {
        needTwo(person, other);
        needWithin(n, 0, 9);
        memory.remember(town, log);
        int was = town.trustOf(person, other);
        town.setTrust(person, other, n);
        return was;
    }

    public void plan(int work) throws IndexOutOfBoundsException, IllegalStateException {
        needWork(work);
        needState(town.state[work] == FALLEN);
        memory.remember(town, log);
        town.state[work] = PLANNED;
    }

    public int send(int person) throws IndexOutOfBoundsException, IllegalStateException {
        needPerson(person);
        needHere(person);
        memory.remember(town, log);
        town.till[person] = town.day + town.journey;
        return town.till[person];
    }

    public int buy(int person, int n)
            throws IndexOutOfBoundsException, IllegalArgumentException, IllegalStateException {
        needPerson(person);
        needWithin(n, 1, MOST_SHARES);
        int paid = n * town.sharePrice();
        needState(town.shares[person] + n <= MOST_SHARES && town.purse[person] >= paid);
        memory.remember(town, log);
        town.shares[person] += n;
        town.purse[person] -= paid;
        town.chest = Math.min(MOST_MONEY, town.chest + paid);
        return town.purse[person];
    }

    public int sell(int person, int n)
            throws IndexOutOfBoundsException, IllegalArgumentException, IllegalStateException {
        needPerson(person);
        needWithin(n, 1, MOST_SHARES);
        int paid = n * town.sharePrice();
        needState(town.shares[person] >= n && town.chest >= paid);
        memory.remember(town, log);
        town.shares[person] -= n;
        town.chest -= paid;
        town.purse[person] = Math.min(MOST_MONEY, town.purse[person] + paid);
        return town.purse[person];
    }

    public boolean dry(int person, boolean is) throws IndexOutOfBoundsException {
        needPerson(person);
        memory.remember(town, log);
        boolean changed = town.dry[person] != is;
        town.dry[person] = is;
        return changed;
    }

    public int days(int n) throws IllegalArgumentException {
        needWithin(n, 1, LONG);
        memory.remember(town, log);
        int fell = 0;
        for (int passed = 0; passed < n; passed++) {
            fell += town.passDay(law, true, log);
        }
        return fell;
    }

    public int ahead(int person, int n) throws IndexOutOfBoundsException, IllegalArgumentException {
        needPerson(person);
        needWithin(n, 0, FAR);
        foresight.lookAhead(0, 0, n);
        return foresight.dream.belief[person];
    }

    public int then(int n, boolean chest) throws IllegalArgumentException {
        needWithin(n, 0, FAR);
        int believed = foresight.lookAhead(0, 0, n);
        return chest ? foresight.dream.chest : believed;
    }

    public int sways(int person, int n) throws IndexOutOfBoundsException, IllegalArgumentException {
        needPerson(person);
        needWithin(n, 0, NEAR);
        return foresight.lookAhead(1 << person, SWAY, n) - foresight.lookAhead(0, 0, n);
    }

    public int guru(int n) throws IllegalArgumentException {
        needWithin(n, 0, NEAR);
        return foresight.strongest(n);
    }

    public int must(int x, int n) throws IllegalArgumentException {
        needWithin(x, 1, MOST_BELIEVED);
        needWithin(n, 0, NEAR);
        return foresight.fewestTold(x, n);
    }

    public int reaches(int x) throws IllegalArgumentException {
        needWithin(x, 1, MOST_BELIEVED);
        return foresight.firstBelieved(x);
    }

    public int doubts() {
        return town.doubters();
    }

    public int ruin() {
        return foresight.firstRuin();
    }

    public int dearest(int n, boolean much) throws IllegalArgumentException {
        needWithin(n, 0, FAR);
        return foresight.greatestPrice(n, much);
    }

    public int falls(int n) throws IllegalArgumentException {
        needWithin(n, 0, FAR);
        foresight.lookAhead(0, 0, n);
        return foresight.dream.worksIn(FALLEN) & ~town.worksIn(FALLEN);
    }

    public int chosen(boolean much) {
        int set = town.bestWorks();
        return much ? town.gainOf(set) : set;
    }

    public int river(int r) throws IllegalArgumentException {
        int length = tape.useUp();
        needTales(length, r);
        return Riddles.odds(r, tape.lead(length));
    }

    public int more(int r) throws IllegalArgumentException {
        int length = tape.useUp();
        needTales(length, r);
        return Riddles.fewestNeeded(r, tape.lead(length));
    }

    public int liars(boolean sure) throws IllegalArgumentException {
        int length = tape.useUp();
        needSaid(length);
        riddles.hear(tape, length, town.people);
        return sure ? riddles.honestInAll() : riddles.fitting;
    }

    public int ask() throws IllegalArgumentException {
        int length = tape.useUp();
        needSaid(length);
        riddles.hear(tape, length, town.people);
        return riddles.bestQuestion();
    }

    public int word(int person) throws IndexOutOfBoundsException {
        needPerson(person);
        return Ties.wordOf(town, person);
    }

    public int steps(int person, int other) throws IndexOutOfBoundsException, IllegalArgumentException {
        needTwo(person, other);
        return Ties.fewestSteps(town, person, other);
    }

    public int circles() {
        return Ties.countCircles(town);
    }

    public int hermits() {
        return Ties.untied(town);
    }

    public int rests(int teller, int dry) throws IndexOutOfBoundsException, IllegalArgumentException {
        needTwo(teller, dry);
        return Riddles.choicesAtRest(town.trustOf(teller, dry));
    }

    public int richest() {
        int best = NONE;
        for (int person = 0; person < town.people; person++) {
            if (best == NONE || town.worthOf(person) > town.worthOf(best)) {
                best = person;
            }
        }
        return best;
    }

    public int firmest() {
        int best = NONE;
        for (int person = 0; person < town.people; person++) {
            if (town.isHere(person) && (best == NONE || town.belief[person] > town.belief[best])) {
                best = person;
            }
        }
        return best;
    }

    public int last(int work) throws IndexOutOfBoundsException {
        needWork(work);
        return foresight.firstFallen(work);
    }

    public int home() {
        return town.firstComing();
    }

    public int trial(int n, boolean chest) throws IllegalArgumentException {
        needWithin(n, 0, LONG);
        int believed = foresight.tryOut(town.seed, n);
        return chest ? foresight.dream.chest : believed;
    }

    public int span(int n, boolean most) throws IllegalArgumentException {
        needWithin(n, 0, LONG);
        return foresight.utmostOfSeeds(n, most);
    }

    public int led(int work, boolean day) throws IndexOutOfBoundsException {
        needWork(work);
        return day ? log.latestDayOf(work) : log.rowsOf(work);
    }

    public int log(int ago, int what) throws NoSuchElementException {
        if (what < 0 || what >= ROW) {
            throw new NoSuchElementException("a row of the log has no such thing");
        }
        return log.at(ago, what);
    }

    public int seed(int n) {
        int was = town.seed;
        town.seed = n;
        return was;
    }

    public boolean undo() {
        return memory.recall(town, log);
    }

    public void image() {
        memory.keepImage(town, law, log);
    }

    public boolean back() {
        return memory.giveBackImage(town, law, log);
    }

    public int count(int what) {
        switch (what) {
            case 0:
                return town.people;
            case 1:
                return town.works;
            case 2:
                return town.texts;
            case 3:
                return law.lines;
            case 4:
                return town.day;
            case 5:
                return town.chest;
            case 6:
                return town.believed();
            case 7:
                return town.peopleHere();
            case 8:
                return town.worksIn(STANDS);
            case 9:
                return town.worksIn(FALLEN);
            case 10:
                return town.sharesOfAll();
            case 11:
                return log.size;
            case 12:
                return memory.held;
            default:
                return NONE;
        }
    }

    private void needPerson(int person) {
        if (person < 0 || person >= town.people) {
            throw new IndexOutOfBoundsException("there is no such person");
        }
    }

    private void needTwo(int person, int other) {
        needPerson(person);
        needPerson(other);
        if (person == other) {
            throw new IllegalArgumentException("both are one");
        }
    }

    private void needWork(int work) {
        if (work < 0 || work >= town.works) {
            throw new IndexOutOfBoundsException("there is no such work");
        }
    }

    private void needHere(int person) {
        needState(town.isHere(person));
    }

    private void needState(boolean can) {
        if (!can) {
            throw new IllegalStateException("it cannot be");
        }
    }

    private void needWithin(int n, int least, int most) {
        if (n < least || n > most) {
            throw new IllegalArgumentException("the number is none");
        }
    }

    private void needTales(int length, int r) {
        needWithin(r, 0, 100);
        needWithin(length, 0, MOST_TALES);
        if (!tape.holdsTales(length)) {
            throw new IllegalArgumentException("the tape is not tales");
        }
    }

    private void needSaid(int length) {
        needWithin(length, 0, MOST_SAID);
        if (!tape.holdsSaid(length, town.people)) {
            throw new IllegalArgumentException("the tape is not what people say of one another");
        }
    }

    /**
     * The bytes that were fed. Using them up leaves them in place, so that they can still be read by their length; as
     * a text they are taken apart into words, figures and single signs, each with the place where it begins.
     */
    private static final class Tape {
        static final int END = 0;
        static final int WORD = 1;
        static final int FIGURES = 2;
        static final int SIGN = 3;

        final int[] bytes = new int[MOST_BYTES];
        int size;
        int length;
        int kind;
        int begin;
        int next;
        int fault = NONE;

        void add(int number) {
            for (int shift = 24; shift >= 0 && size < MOST_BYTES; shift -= 8) {
                bytes[size] = number >>> shift & 255;
                size++;
            }
        }

        int useUp() {
            int used = size;
            size = 0;
            return used;
        }

        boolean holdsTales(int length) {
            for (int i = 0; i < length; i++) {
                if (bytes[i] > 1) {
                    return false;
                }
            }
            return true;
        }

        /** How many tales of water there are more than tales of none. */
        int lead(int length) {
            int lead = 0;
            for (int i = 0; i < length; i++) {
                lead += bytes[i] == 1 ? 1 : -1;
            }
            return lead;
        }

        boolean holdsSaid(int length, int people) {
            if (length % 3 != 0) {
                return false;
            }
            for (int i = 0; i + 2 < length; i += 3) {
                int who = bytes[i];
                int whom = bytes[i + 1];
                if (who >= people || whom >= people || who == whom || bytes[i + 2] > 1) {
                    return false;
                }
            }
            return true;
        }

        void open(int textLength) {
            length = Math.min(textLength, MOST_BYTES);
            next = 0;
            fault = NONE;
            step();
        }

        void step() {
            while (next < length && bytes[next] == ' ') {
                next++;
            }
            begin = next;
            if (next >= length) {
                kind = END;
                return;
            }
            int sign = bytes[next];
            next++;
            if (sign >= 'a' && sign <= 'z') {
                kind = WORD;
                while (next < length && bytes[next] >= 'a' && bytes[next] <= 'z') {
                    next++;
                }
            } else if (sign >= '0' && sign <= '9') {
                kind = FIGURES;
                while (next < length && bytes[next] >= '0' && bytes[next] <= '9') {
                    next++;
                }
            } else {
                kind = SIGN;
            }
        }

        /** Marks what is read now as the first that cannot stand there; answers false, so that readers end with it. */
        boolean refuse() {
            if (fault == NONE) {
                fault = begin;
            }
            return false;
        }

        boolean isWord(String word) {
            if (kind != WORD || word.length() != next - begin) {
                return false;
            }
            for (int i = 0; i < word.length(); i++) {
                if (bytes[begin + i] != word.charAt(i)) {
                    return false;
                }
            }
            return true;
        }

        boolean isSign(char sign) {
            return kind == SIGN && bytes[begin] == sign;
        }

        boolean takeWord(String word) {
            if (!isWord(word)) {
                return false;
            }
            step();
            return true;
        }

        boolean needWord(String word) {
            return takeWord(word) || refuse();
        }

        boolean takeSign(char sign) {
            if (!isSign(sign)) {
                return false;
            }
            step();
            return true;
        }

        boolean needSign(char sign) {
            return takeSign(sign) || refuse();
        }

        /** A number of 1 to 3 digits within its bounds; NONE, and the fault is marked, if it is another thing. */
        int number(int least, int most) {
            int value = 0;
            if (kind == FIGURES && next - begin <= 3) {
                for (int at = begin; at < next; at++) {
                    value = value * 10 + bytes[at] - '0';
                }
                if (value >= least && value <= most) {
                    step();
                    return value;
                }
            }
            refuse();
            return NONE;
        }
    }

    /** A text of lines, with a semicolon between two of them. */
    private abstract static class Text {
        final Tape in;

        Text(Tape in) {
            this.in = in;
        }

        abstract boolean readLine();

        /** How many lines there are; NONE if the text is wrong. */
        int readLines(int most) {
            if (in.kind == Tape.END) {
                return 0;
            }
            for (int lines = 1; lines <= most; lines++) {
                if (!readLine()) {
                    return NONE;
                }
                if (in.kind == Tape.END) {
                    return lines;
                }
                if (!in.needSign(';')) {
                    return NONE;
                }
            }
            in.refuse();
            return NONE;
        }
    }

    /** Reads a text of the town into a draft, so that of a wrong text nothing stays. */
    private static final class TownText extends Text {
        final Town draft = new Town();

        TownText(Tape in) {
            super(in);
        }

        boolean readLine() {
            if (in.isWord("person")) {
                return readPerson();
            }
            if (in.isWord("work")) {
                return readWork();
            }
            if (in.takeWord("trusts")) {
                return readTrusts();
            }
            if (in.takeWord("shares")) {
                return readShares();
            }
            if (in.takeWord("chest")) {
                int chest = in.number(0, 999);
                draft.chest = chest;
                return chest != NONE;
            }
            if (in.takeWord("journey")) {
                int journey = in.number(1, 30);
                draft.journey = journey;
                return journey != NONE;
            }
            if (in.takeWord("truth")) {
                int truth = in.number(0, 100);
                draft.truth = truth;
                return truth != NONE;
            }
            if (in.takeWord("day")) {
                int day = in.number(0, 999);
                draft.day = day;
                return day != NONE;
            }
            return in.refuse();
        }

        private boolean readPerson() {
            if (draft.people >= MOST_PEOPLE) {
                return in.refuse();
            }
            in.step();
            int belief = in.number(0, MOST_BELIEF);
            if (belief == NONE || !in.needWord("purse")) {
                return false;
            }
            int purse = in.number(0, 999);
            if (purse == NONE) {
                return false;
            }
            draft.addPerson(belief, purse, in.takeWord("dry"));
            return true;
        }

        private boolean readWork() {
            if (draft.works >= MOST_WORKS) {
                return in.refuse();
            }
            in.step();
            int cost = in.number(1, 99);
            if (cost == NONE || !in.needWord("need")) {
                return false;
            }
            int need = in.number(0, 799);
            if (need == NONE || !in.needWord("gain")) {
                return false;
            }
            int gain = in.number(0, 20);
            if (gain == NONE) {
                return false;
            }
            draft.addWork(cost, need, gain);
            return true;
        }

        private boolean readTrusts() {
            int person = in.number(0, draft.people - 1);
            if (person == NONE) {
                return false;
            }
            if (in.kind != Tape.FIGURES || in.next - in.begin != draft.people) {
                return in.refuse();
            }
            for (int other = 0; other < draft.people; other++) {
                if (other != person) {
                    draft.setTrust(person, other, in.bytes[in.begin + other] - '0');
                }
            }
            in.step();
            return true;
        }

        private boolean readShares() {
            int person = in.number(0, draft.people - 1);
            if (person == NONE) {
                return false;
            }
            int shares = in.number(0, MOST_SHARES);
            if (shares == NONE) {
                return false;
            }
            draft.shares[person] = shares;
            return true;
        }
    }

    /** Reads a text of the law into a draft. A condition becomes cells that are gone through once for each person. */
    private static final class LawText extends Text {
        final Law draft = new Law();

        LawText(Tape in) {
            super(in);
        }

        boolean readLine() {
            boolean raise = in.isWord("raise");
            if (!raise && !in.isWord("lower")) {
                return in.refuse();
            }
            in.step();
            int by = in.number(0, 30);
            if (by == NONE || in.takeWord("if") && !readCondition(0)) {
                return false;
            }
            draft.put(raise ? Law.RAISE : Law.LOWER, by);
            return true;
        }

        private boolean readCondition(int deep) {
            int lastOr = NONE;
            int lastAnd = NONE;
            for (int atoms = 0; atoms < MOST_BYTES; atoms++) {
                if (!readAtom(deep)) {
                    return false;
                }
                draft.aim(lastAnd);
                lastAnd = NONE;
                if (in.takeWord("and")) {
                    lastAnd = draft.put(Law.AND, 0);
                    continue;
                }
                draft.aim(lastOr);
                if (!in.takeWord("or")) {
                    return true;
                }
                lastOr = draft.put(Law.OR, 0);
            }
            return in.refuse();
        }

        private boolean readAtom(int deep) {
            if (in.isWord("not") || in.isSign('(')) {
                return deep < MOST_DEEP ? readDeeper(deep + 1) : in.refuse();
            }
            if (in.takeWord("dry")) {
                draft.put(Law.DRY, 0);
                return true;
            }
            if (in.takeWord("owner")) {
                draft.put(Law.OWNER, 0);
                return true;
            }
            if (!readSum()) {
                return false;
            }
            boolean less = in.isSign('<');
            if (!less && !in.isSign('>')) {
                return in.refuse();
            }
            in.step();
            draft.put(Law.LEFT, 0);
            if (!readSum()) {
                return false;
            }
            draft.put(less ? Law.LESS : Law.GREATER, 0);
            return true;
        }

        private boolean readDeeper(int deep) {
            if (in.takeSign('(')) {
                return readCondition(deep) && (in.takeSign(')') || in.refuse());
            }
            in.step();
            if (!readAtom(deep)) {
                return false;
            }
            draft.put(Law.NOT, 0);
            return true;
        }

        private boolean readSum() {
            for (int parts = 0; parts < MOST_BYTES; parts++) {
                int part = in.isWord("who") ? Law.WHO
                        : in.isWord("belief") ? Law.BELIEF
                        : in.isWord("mean") ? Law.MEAN
                        : in.isWord("works") ? Law.WORKS
                        : in.isWord("ties") ? Law.TIES
                        : in.isWord("day") ? Law.DAY : Law.ADD;
                int number = 0;
                if (part == Law.ADD) {
                    number = in.number(0, 999);
                    if (number == NONE) {
                        return false;
                    }
                } else {
                    in.step();
                }
                draft.put(part, number);
                if (!in.takeSign('+')) {
                    return true;
                }
            }
            return in.refuse();
        }
    }

    /**
     * The law as a row of cells: what is done, and above it a number. A sum gathers; a comparison, dry and owner say
     * whether it is so; and, or jump behind what cannot change that any more; raise, lower end a line.
     */
    private static final class Law {
        static final int ADD = 0;
        static final int WHO = 1;
        static final int BELIEF = 2;
        static final int MEAN = 3;
        static final int WORKS = 4;
        static final int TIES = 5;
        static final int DAY = 6;
        static final int LEFT = 7;
        static final int LESS = 8;
        static final int GREATER = 9;
        static final int DRY = 10;
        static final int OWNER = 11;
        static final int NOT = 12;
        static final int AND = 13;
        static final int OR = 14;
        static final int RAISE = 15;
        static final int LOWER = 16;
        static final int KINDS = 32;

        // Never more cells than bytes: a comparison has one more than bytes, the word ahead of it one less at least.
        final int[] cells = new int[MOST_BYTES];
        int size;
        int lines = NONE;
        int mean;
        int standing;
        int day;

        void clear() {
            size = 0;
            lines = NONE;
        }

        void copyFrom(Law other) {
            System.arraycopy(other.cells, 0, cells, 0, MOST_BYTES);
            size = other.size;
            lines = other.lines;
        }

        int put(int kind, int number) {
            if (size >= MOST_BYTES) {
                return NONE;
            }
            cells[size] = kind + KINDS * number;
            size++;
            return size - 1;
        }

        /** Lets a jump that was put lead behind all that has been put by now. */
        void aim(int jump) {
            if (jump >= 0 && jump < size) {
                cells[jump] = cells[jump] % KINDS + KINDS * size;
            }
        }

        /** Notes what is the same for all people, so that it is not sought for each of them. */
        void look(int meanBelief, int worksStanding, int today) {
            mean = meanBelief;
            standing = worksStanding;
            day = today;
        }

        int turnsOf(Town town, int person) {
            if (lines == NONE) {
                return town.dry[person] ? -1 : 0;
            }
            int turns = 0;
            int left = 0;
            int sum = 0;
            boolean so = true;
            for (int at = 0; at < size; at++) {
                int number = cells[at] / KINDS;
                int kind = cells[at] % KINDS;
                switch (kind) {
                    case ADD:
                        sum += number;
                        break;
                    case LEFT:
                        left = sum;
                        sum = 0;
                        break;
                    case LESS:
                        so = left < sum;
                        sum = 0;
                        break;
                    case GREATER:
                        so = left > sum;
                        sum = 0;
                        break;
                    case DRY:
                        so = town.dry[person];
                        break;
                    case OWNER:
                        so = town.shares[person] > 0;
                        break;
                    case NOT:
                        so = !so;
                        break;
                    case AND:
                        at = so ? at : Math.max(at, number - 1);
                        break;
                    case OR:
                        at = so ? Math.max(at, number - 1) : at;
                        break;
                    case RAISE:
                        turns += so ? number : 0;
                        so = true;
                        break;
                    case LOWER:
                        turns -= so ? number : 0;
                        so = true;
                        break;
                    default:
                        sum += partOf(town, person, kind);
                        break;
                }
            }
            return turns;
        }

        private int partOf(Town town, int person, int kind) {
            switch (kind) {
                case WHO:
                    return person;
                case BELIEF:
                    return town.belief[person];
                case MEAN:
                    return mean;
                case WORKS:
                    return standing;
                case TIES:
                    return town.tiesOf(person);
                default:
                    return day;
            }
        }
    }

    /** All of the town but its law and its log, and how a day passes in it. */
    private static final class Town {
        int people;
        int works;
        int texts;
        int chest = 20;
        int journey = 6;
        int truth = 50;
        int day;
        int seed = 1;
        final int[] belief = new int[MOST_PEOPLE];
        final int[] purse = new int[MOST_PEOPLE];
        final int[] shares = new int[MOST_PEOPLE];
        final int[] till = new int[MOST_PEOPLE];
        final boolean[] dry = new boolean[MOST_PEOPLE];
        final int[] trust = new int[MOST_PEOPLE * MOST_PEOPLE];
        final int[] cost = new int[MOST_WORKS];
        final int[] need = new int[MOST_WORKS];
        final int[] gain = new int[MOST_WORKS];
        final int[] state = new int[MOST_WORKS];
        final int[] morrow = new int[MOST_PEOPLE];

        void copyFrom(Town other) {
            people = other.people;
            works = other.works;
            texts = other.texts;
            chest = other.chest;
            journey = other.journey;
            truth = other.truth;
            day = other.day;
            seed = other.seed;
            System.arraycopy(other.belief, 0, belief, 0, MOST_PEOPLE);
            System.arraycopy(other.purse, 0, purse, 0, MOST_PEOPLE);
            System.arraycopy(other.shares, 0, shares, 0, MOST_PEOPLE);
            System.arraycopy(other.till, 0, till, 0, MOST_PEOPLE);
            System.arraycopy(other.dry, 0, dry, 0, MOST_PEOPLE);
            System.arraycopy(other.trust, 0, trust, 0, MOST_PEOPLE * MOST_PEOPLE);
            System.arraycopy(other.cost, 0, cost, 0, MOST_WORKS);
            System.arraycopy(other.need, 0, need, 0, MOST_WORKS);
            System.arraycopy(other.gain, 0, gain, 0, MOST_WORKS);
            System.arraycopy(other.state, 0, state, 0, MOST_WORKS);
        }

        void addPerson(int believes, int has, boolean isDry) {
            int person = people;
            if (person >= MOST_PEOPLE) {
                return;
            }
            people++;
            belief[person] = believes;
            purse[person] = has;
            shares[person] = 0;
            till[person] = NONE;
            dry[person] = isDry;
            for (int other = 0; other < MOST_PEOPLE; other++) {
                setTrust(person, other, 0);
                setTrust(other, person, 0);
            }
        }

        void addWork(int costs, int needs, int gains) {
            int work = works;
            if (work >= MOST_WORKS) {
                return;
            }
            works++;
            cost[work] = costs;
            need[work] = needs;
            gain[work] = gains;
            state[work] = PLANNED;
        }

        int trustOf(int person, int other) {
            return trust[person * MOST_PEOPLE + other];
        }

        void setTrust(int person, int other, int n) {
            trust[person * MOST_PEOPLE + other] = n;
        }

        boolean isHere(int person) {
            return till[person] == NONE;
        }

        int peopleHere() {
            int bits = 0;
            for (int person = 0; person < people; person++) {
                if (isHere(person)) {
                    bits |= 1 << person;
                }
            }
            return bits;
        }

        int believed() {
            int sum = 0;
            for (int person = 0; person < people; person++) {
                if (isHere(person)) {
                    sum += belief[person];
                }
            }
            return sum;
        }

        int meanBelief() {
            int here = Integer.bitCount(peopleHere());
            return here == 0 ? 0 : believed() / here;
        }

        int sharePrice() {
            int mean = meanBelief();
            return mean * mean / 50 + 1;
        }

        int pullOf(int person) {
            int sum = 0;
            for (int other = 0; other < people; other++) {
                if (other != person && isHere(other)) {
                    sum += trustOf(person, other) * (belief[other] - belief[person]);
                }
            }
            return sum / 40;
        }

        int tiesOf(int person) {
            int ties = 0;
            for (int other = 0; other < people; other++) {
                if (other != person && trust[person * MOST_PEOPLE + other] > 0) {
                    ties++;
                }
            }
            return ties;
        }

        int worthOf(int person) {
            return purse[person] + shares[person] * sharePrice();
        }

        int shareOf(int person) {
            int all = believed();
            return all == 0 || !isHere(person) ? 0 : belief[person] * 100 / all;
        }

        int sharesOfAll() {
            int sum = 0;
            for (int person = 0; person < people; person++) {
                sum += shares[person];
            }
            return sum;
        }

        int doubters() {
            int bits = 0;
            for (int person = 0; person < people; person++) {
                if (isHere(person) && belief[person] < DOUBT) {
                    bits |= 1 << person;
                }
            }
            return bits;
        }

        boolean isRuined() {
            int here = Integer.bitCount(peopleHere());
            return here > 0 && 3 * Integer.bitCount(doubters()) >= 2 * here;
        }

        int worksIn(int which) {
            int bits = 0;
            for (int work = 0; work < works; work++) {
                if (state[work] == which) {
                    bits |= 1 << work;
                }
            }
            return bits;
        }

        /** The day on which the first of those who are away is back: one whose day has gone by comes on this one. */
        int firstComing() {
            int first = NONE;
            for (int person = 0; person < people; person++) {
                if (!isHere(person) && (first == NONE || till[person] < first)) {
                    first = till[person];
                }
            }
            return first == NONE || first > MOST_DAY ? NONE : Math.max(first, day);
        }

        int bestWorks() {
            int best = 0;
            for (int set = 1; set < 1 << works; set++) {
                if (canBuild(set) && gainOf(set) > gainOf(best)) {
                    best = set;
                }
            }
            return best;
        }

        private boolean canBuild(int set) {
            int believed = believed();
            int costs = 0;
            for (int work = 0; work < works; work++) {
                if ((set >> work & 1) != 0) {
                    if (state[work] != PLANNED || need[work] > believed) {
                        return false;
                    }
                    costs += cost[work];
                }
            }
            return costs <= chest;
        }

        int gainOf(int set) {
            int sum = 0;
            for (int work = 0; work < works; work++) {
                if ((set >> work & 1) != 0) {
                    sum += gain[work];
                }
            }
            return sum;
        }

        void raise(int person, int by) {
            belief[person] = within(belief[person] + by);
        }

        private int within(int believes) {
            return Math.max(0, Math.min(MOST_BELIEF, believes));
        }

        /** Lets a day pass: how many works fell. Without tales whoever comes back tells nothing; the log may be null. */
        int passDay(Law law, boolean tales, Log log) {
            showTo(law);
            turnBeliefs(law);
            int fell = keepWorks(log);
            comeBack(tales, log);
            day = Math.min(MOST_DAY, day + 1);
            return fell;
        }

        private void showTo(Law law) {
            law.look(meanBelief(), Integer.bitCount(worksIn(STANDS)), day);
        }

        int turnsOf(int person, Law law) {
            showTo(law);
            return law.turnsOf(this, person);
        }

        private void turnBeliefs(Law law) {
            for (int person = 0; person < people; person++) {
                if (isHere(person)) {
                    morrow[person] = within(belief[person] + pullOf(person) + law.turnsOf(this, person));
                } else {
                    morrow[person] = belief[person];
                }
            }
            System.arraycopy(morrow, 0, belief, 0, people);
        }

        private int keepWorks(Log log) {
            int believed = believed();
            int fell = 0;
            for (int work = 0; work < works; work++) {
                if (state[work] == PLANNED && believed >= need[work] && chest >= cost[work]) {
                    state[work] = STANDS;
                    chest -= cost[work];
                    write(log, work, ROW_STANDS);
                } else if (state[work] == STANDS && believed < need[work]) {
                    state[work] = FALLEN;
                    fell++;
                    write(log, work, ROW_FALLS);
                } else if (state[work] == STANDS) {
                    chest = Math.min(MOST_MONEY, chest + gain[work]);
                }
            }
            return fell;
        }

        private void comeBack(boolean tales, Log log) {
            for (int person = 0; person < people; person++) {
                if (!isHere(person) && till[person] <= day) {
                    till[person] = NONE;
                    if (tales) {
                        boolean water = draw() % 100 < truth;
                        spread(person, water);
                        write(log, person, water ? ROW_WATER : ROW_NO_WATER);
                    }
                }
            }
        }

        private int draw() {
            seed = 1103515245 * seed + 12345;
            return seed >> 16 & 32767;
        }

        private void spread(int teller, boolean water) {
            for (int other = 0; other < people; other++) {
                if (other != teller && isHere(other)) {
                    raise(other, water ? trustOf(other, teller) : -trustOf(other, teller));
                }
            }
            belief[teller] = water ? MOST_BELIEF : 0;
        }

        private void write(Log log, int which, int kind) {
            if (log != null) {
                log.add(day, which, kind, believed());
            }
        }
    }

    /** The latest rows of what came to be. */
    private static final class Log {
        final int[] rows = new int[MOST_ROWS * ROW];
        int size;
        int next;

        void copyFrom(Log other) {
            System.arraycopy(other.rows, 0, rows, 0, MOST_ROWS * ROW);
            size = other.size;
            next = other.next;
        }

        void add(int day, int which, int kind, int believed) {
            int at = next * ROW;
            rows[at] = day;
            rows[at + 1] = which;
            rows[at + 2] = kind;
            rows[at + 3] = believed;
            next = (next + 1) % MOST_ROWS;
            size = Math.min(MOST_ROWS, size + 1);
        }

        int at(int ago, int what) {
            if (ago < 0 || ago >= size) {
                return NONE;
            }
            return rows[Math.floorMod(next - 1 - ago, MOST_ROWS) * ROW + what];
        }

        private boolean isOf(int ago, int work) {
            return at(ago, 1) == work && at(ago, 2) <= ROW_FALLS;
        }

        int rowsOf(int work) {
            int found = 0;
            for (int ago = 0; ago < size; ago++) {
                if (isOf(ago, work)) {
                    found++;
                }
            }
            return found;
        }

        int latestDayOf(int work) {
            for (int ago = 0; ago < size; ago++) {
                if (isOf(ago, work)) {
                    return at(ago, 0);
                }
            }
            return NONE;
        }
    }

    /** How all was ahead of the latest acts (but for the law: a text lets all acts be forgotten), and the image. */
    private static final class Memory {
        final Town[] towns = new Town[MOST_ACTS];
        final Log[] logs = new Log[MOST_ACTS];
        final Town imageTown = new Town();
        final Law imageLaw = new Law();
        final Log imageLog = new Log();
        boolean hasImage;
        int held;
        int next;

        Memory() {
            for (int i = 0; i < MOST_ACTS; i++) {
                towns[i] = new Town();
                logs[i] = new Log();
            }
        }

        void forget() {
            held = 0;
        }

        void remember(Town town, Log log) {
            towns[next].copyFrom(town);
            logs[next].copyFrom(log);
            next = (next + 1) % MOST_ACTS;
            held = Math.min(MOST_ACTS, held + 1);
        }

        boolean recall(Town town, Log log) {
            if (held == 0) {
                return false;
            }
            held--;
            next = Math.floorMod(next - 1, MOST_ACTS);
            town.copyFrom(towns[next]);
            log.copyFrom(logs[next]);
            return true;
        }

        void keepImage(Town town, Law law, Log log) {
            imageTown.copyFrom(town);
            imageLaw.copyFrom(law);
            imageLog.copyFrom(log);
            hasImage = true;
        }

        boolean giveBackImage(Town town, Law law, Log log) {
            if (!hasImage) {
                return false;
            }
            town.copyFrom(imageTown);
            law.copyFrom(imageLaw);
            log.copyFrom(imageLog);
            forget();
            return true;
        }
    }

    /** Dreams of days to come, in a town of its own, so that nothing of them stays. */
    private static final class Foresight {
        final Town now;
        final Law law;
        final Town dream = new Town();

        Foresight(Town now, Law law) {
            this.now = now;
            this.law = law;
        }

        /** Dreams of so many days ahead, if those of a set believed so much more now: what is believed then. */
        int lookAhead(int set, int by, int days) {
            dream.copyFrom(now);
            for (int person = 0; person < now.people; person++) {
                if ((set >> person & 1) != 0) {
                    dream.raise(person, by);
                }
            }
            for (int passed = 0; passed < days; passed++) {
                dream.passDay(law, false, null);
            }
            return dream.believed();
        }

        int strongest(int days) {
            int best = NONE;
            int most = 0;
            for (int person = 0; person < now.people; person++) {
                if (now.isHere(person)) {
                    int believed = lookAhead(1 << person, SWAY, days);
                    if (best == NONE || believed > most) {
                        best = person;
                        most = believed;
                    }
                }
            }
            return best;
        }

        int fewestTold(int x, int days) {
            int here = now.peopleHere();
            for (int told = 0; told <= now.people; told++) {
                for (int set = 0; set < 1 << now.people; set++) {
                    if (Integer.bitCount(set) == told && (set & ~here) == 0
                            && lookAhead(set, TOLD, days) >= x) {
                        return set;
                    }
                }
            }
            return NONE;
        }

        int firstBelieved(int x) {
            dream.copyFrom(now);
            for (int passed = 0; passed <= FAR; passed++) {
                if (dream.believed() >= x) {
                    return passed;
                }
                dream.passDay(law, false, null);
            }
            return NONE;
        }

        int firstRuin() {
            dream.copyFrom(now);
            for (int passed = 0; passed <= FAR; passed++) {
                if (dream.isRuined()) {
                    return passed;
                }
                dream.passDay(law, false, null);
            }
            return NONE;
        }

        int firstFallen(int work) {
            dream.copyFrom(now);
            for (int passed = 0; passed <= FAR; passed++) {
                if (dream.state[work] == FALLEN) {
                    return passed;
                }
                dream.passDay(law, false, null);
            }
            return NONE;
        }

        int greatestPrice(int days, boolean much) {
            dream.copyFrom(now);
            int when = 0;
            int most = dream.sharePrice();
            for (int passed = 1; passed <= days; passed++) {
                dream.passDay(law, false, null);
                if (dream.sharePrice() > most) {
                    most = dream.sharePrice();
                    when = passed;
                }
            }
            return much ? most : when;
        }

        /** Dreams of so many days with tales, by draws from a seed: what is believed then. */
        int tryOut(int seed, int days) {
            dream.copyFrom(now);
            dream.seed = seed;
            for (int passed = 0; passed < days; passed++) {
                dream.passDay(law, true, null);
            }
            return dream.believed();
        }

        int utmostOfSeeds(int days, boolean most) {
            int utmost = NONE;
            for (int seed = 1; seed <= 6; seed++) {
                int believed = tryOut(seed, days);
                if (utmost == NONE || (most ? believed > utmost : believed < utmost)) {
                    utmost = believed;
                }
            }
            return utmost;
        }
    }

    /** Whose word comes to whom. Sets of people are bits. */
    private static final class Ties {
        private static int trusting(Town town, int set) {
            int bits = 0;
            for (int person = 0; person < town.people; person++) {
                for (int other = 0; other < town.people; other++) {
                    if (other != person && (set >> other & 1) != 0 && town.trustOf(person, other) > 0) {
                        bits |= 1 << person;
                    }
                }
            }
            return bits;
        }

        static int wordOf(Town town, int person) {
            int heard = 0;
            for (int passed = 0; passed < town.people; passed++) {
                heard |= trusting(town, heard | 1 << person);
            }
            return heard & ~(1 << person);
        }

        static int fewestSteps(Town town, int person, int other) {
            int heard = 1 << person;
            for (int steps = 1; steps < town.people; steps++) {
                heard |= trusting(town, heard);
                if ((heard >> other & 1) != 0) {
                    return steps;
                }
            }
            return NONE;
        }

        static int countCircles(Town town) {
            int circles = 0;
            int seen = 0;
            for (int person = 0; person < town.people; person++) {
                int circle = circleOf(town, person);
                if (circle != 0 && (seen >> person & 1) == 0) {
                    circles++;
                }
                seen |= circle;
            }
            return circles;
        }

        private static int circleOf(Town town, int person) {
            int word = wordOf(town, person);
            int circle = 0;
            for (int other = 0; other < town.people; other++) {
                if ((word >> other & 1) != 0 && (wordOf(town, other) >> person & 1) != 0) {
                    circle |= 1 << other;
                }
            }
            return circle;
        }

        static int untied(Town town) {
            int bits = 0;
            for (int person = 0; person < town.people; person++) {
                if (town.tiesOf(person) == 0 && trusting(town, 1 << person) == 0) {
                    bits |= 1 << person;
                }
            }
            return bits;
        }
    }

    /** Who is honest, by sets of the honest that fit what was said; the odds of a river; choices at rest. */
    private static final class Riddles {
        static final int RIGHT = 9;
        static final int SURE = 9900;
        static final int MOST_MORE = 20;

        final boolean[] fits = new boolean[1 << MOST_PEOPLE];
        int people;
        int fitting;

        void hear(Tape tape, int length, int ofPeople) {
            people = Math.min(ofPeople, MOST_PEOPLE);
            fitting = 0;
            for (int honest = 0; honest < 1 << people; honest++) {
                fits[honest] = fitsAll(tape, length, honest);
                if (fits[honest]) {
                    fitting++;
                }
            }
        }

        private boolean fitsAll(Tape tape, int length, int honest) {
            for (int i = 0; i + 2 < length && i + 2 < MOST_BYTES; i += 3) {
                if (answers(honest, tape.bytes[i], tape.bytes[i + 1]) != (tape.bytes[i + 2] == 1)) {
                    return false;
                }
            }
            return true;
        }

        /** Whether one says of another that it is honest: an honest one says so of the honest, a liar of liars. */
        private boolean answers(int honest, int who, int whom) {
            return (honest >> who & 1) == (honest >> whom & 1);
        }

        int honestInAll() {
            int sure = fitting == 0 ? 0 : (1 << people) - 1;
            for (int honest = 0; honest < 1 << people; honest++) {
                if (fits[honest]) {
                    sure &= honest;
                }
            }
            return sure;
        }

        int bestQuestion() {
            int best = NONE;
            int least = 0;
            for (int who = 0; who < people && fitting >= 2; who++) {
                for (int whom = 0; whom < people; whom++) {
                    int greater = greaterPart(who, whom);
                    if (who != whom && (best == NONE || greater < least)) {
                        best = 10 * who + whom;
                        least = greater;
                    }
                }
            }
            return best;
        }

        private int greaterPart(int who, int whom) {
            int yes = 0;
            for (int honest = 0; honest < 1 << people; honest++) {
                if (fits[honest] && answers(honest, who, whom)) {
                    yes++;
                }
            }
            return Math.max(yes, fitting - yes);
        }

        /** A tale for the river and one against it outweigh one another, so that the lead of the one kind is enough. */
        static int odds(int r, int lead) {
            long is = r;
            long isNot = 100 - r;
            for (int tale = 0; tale < lead; tale++) {
                is *= RIGHT;
            }
            for (int tale = 0; tale < -lead; tale++) {
                isNot *= RIGHT;
            }
            return is + isNot <= 0 ? 0 : (int) (10000 * is / (is + isNot));
        }

        /** Any odds but none are sure far below a lead of all tales; a greater lead would not fit into a long. */
        static int fewestNeeded(int r, int lead) {
            for (int tales = 0; tales <= MOST_MORE && lead + tales <= MOST_TALES; tales++) {
                if (odds(r, lead + tales) >= SURE) {
                    return tales;
                }
            }
            return NONE;
        }

        /** The teller tells (0) or is silent (1), the dry man mocks (0) or is silent (1). */
        static int choicesAtRest(int trust) {
            int bits = 0;
            for (int choice = 0; choice < 4; choice++) {
                int teller = choice / 2;
                int dryMan = choice % 2;
                if (tellerHas(teller, dryMan) >= tellerHas(1 - teller, dryMan)
                        && dryManHas(teller, dryMan, trust) >= dryManHas(teller, 1 - dryMan, trust)) {
                    bits |= 1 << choice;
                }
            }
            return bits;
        }

        private static int risesBy(int teller, int dryMan) {
            if (teller == 0) {
                return dryMan == 0 ? 5 : 20;
            }
            return dryMan == 0 ? -10 : 0;
        }

        private static int tellerHas(int teller, int dryMan) {
            return risesBy(teller, dryMan) - (teller == 0 ? 4 : 0);
        }

        private static int dryManHas(int teller, int dryMan, int trust) {
            return -risesBy(teller, dryMan) - (dryMan == 0 ? trust : 0);
        }
    }
}
