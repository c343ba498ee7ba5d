/** The edges that each promise itself names, in the order of the promises; what parts 1 to 3 name stands in their tests. */
final class PromiseEdgesTest {
    private static final int NONE = Edges.NONE;
    private static final int[] NO_PERSON = {2, 3, 8, -1, Edges.LEAST, Edges.GREATEST};
    private static Edges e;

    public static void main(String[] args) throws Exception {
        e = new Edges("PromiseEdgesTest");
        aNewObject();
        feed();
        end();
        town();
        law();
        fault();
        person();
        trust();
        work();
        price();
        tell();
        tie();
        plan();
        send();
        buy();
        sell();
        dry();
        days();
        log();
        seed();
        undo();
        fullTown();
        undoneAll();
        thirteenActs();
        whatForgets();
        image();
        back();
        count();
        e.close();
    }

    private static DryRiver two() {
        return Check.of("person 50 purse 100;person 20 purse 10 dry;trusts 0 05;trusts 1 70;work 1 need 70 gain 2", "raise 0");
    }

    private static void aNewObject() {
        e.says("`DryRiver()`: A town without PEOPLE.");
        DryRiver x = new DryRiver();
        int[] due = {0, 0, 0, NONE, 0, 20, 0, 0, 0, 0, 0, 0, 0};
        for (int what = 0; what <= 12; what++) {
            e.is("count " + what, due[what], x.count(what));
        }
        e.is("no tape", 0, Probe.tape(x));
        e.is("no act", false, x.undo());
        e.is("no image", false, x.back());
        for (int person : new int[] {0, -1, Edges.LEAST, Edges.GREATEST}) {
            e.refuses("person", Edges.INDEX, () -> x.person(person, 0));
            e.refuses("trust", Edges.INDEX, () -> x.trust(person, person));
            e.refuses("work", Edges.INDEX, () -> x.work(person, 0));
        }
        DryRiver other = new DryRiver();
        Check.town(x, "person 1 purse 1;chest 5");
        e.is("another object is its own", 0, other.count(0));
        e.is("with its own chest", 20, other.count(5));
    }

    private static void feed() {
        e.says("Twenty bytes come behind the TAPE, of each number the highest first: how many it has; NONE, and none come, if it "
                + "would have more than 400.");
        DryRiver x = new DryRiver();
        for (int fed = 20; fed <= 400; fed += 20) {
            e.is("fed", fed, x.feed(0x20202020, 0x20202020, 0x20202020, 0x20202020, 0x20202020));
        }
        e.is("a full tape", NONE, x.feed(-1, -1, -1, -1, -1));
        e.is("it has what it had", 400, Probe.tape(x));
        for (int left = 399; left > 380; left--) {
            e.is("cut", true, x.end(left));
            e.is("would have " + (left + 20), NONE, x.feed(-1, -1, -1, -1, -1));
            e.is("none came", left, Probe.tape(x));
        }
        x.end(380);
        e.is("would have 400", 400, x.feed(0x20202020, 0x20202020, 0x20202020, 0x20202020, 0x64617935));
        e.is("the last four bytes are day5", 1, x.town());
        e.is("day5", 5, x.count(4));
        e.is("the tape is empty again", 20, x.feed(0, 0, 0, 0, 0));
        x.end(0);
        // Each of twenty places: a byte that cannot stand there, by a number whose highest bit may be set.
        for (int place = 0; place < 20; place++) {
            int[] five = {0x20202020, 0x20202020, 0x20202020, 0x20202020, 0x20202020};
            int shift = 24 - 8 * (place % 4);
            five[place / 4] = five[place / 4] & ~(255 << shift) | 0xff << shift;
            x.feed(five[0], five[1], five[2], five[3], five[4]);
            e.refuses("a byte of 255", Edges.ARGUMENT, x::town);
            e.is("its place", place, x.fault());
        }
        x.feed(0x20202020, 0x20202020, 0x20202020, 0x20202020, 0x20202020);
        x.feed(0x20202020, 0x20202020, 0x20202020, 0x20202020, 0x20202021);
        e.refuses("behind the tape", Edges.ARGUMENT, x::town);
        e.is("the fortieth byte", 39, x.fault());
    }

    private static void end() {
        e.says("The TAPE has its first n bytes alone: true; false, and nothing happens, if it has fewer, or n is below 0.");
        DryRiver x = new DryRiver();
        e.is("0 of none", true, x.end(0));
        e.is("1 of none", false, x.end(1));
        e.is("-1 of none", false, x.end(-1));
        x.feed(0x63686573, 0x74203534, 0x33323120, 0x20202020, 0x20202020);
        for (int bad : new int[] {21, 400, 401, -1, Edges.LEAST, Edges.GREATEST}) {
            e.is("end " + bad, false, x.end(bad));
            e.is("nothing happened", 20, Probe.tape(x));
        }
        e.is("all of them", true, x.end(20));
        e.is("the first nine", true, x.end(9));
        e.is("not ten any more", false, x.end(10));
        e.is("nine still", true, x.end(9));
        x.town();
        e.is("the first bytes: chest 543", 543, x.count(5));
        x.feed(0x63686573, 0x74203534, 0x33323120, 0x20202020, 0x20202020);
        x.end(7);
        x.feed(0x37202020, 0x20202020, 0x20202020, 0x20202020, 0x20202020);
        x.town();
        e.is("what comes behind the cut: chest 57", 57, x.count(5));
        x.feed(1, 2, 3, 4, 5);
        e.is("none at all", true, x.end(0));
        e.is("an empty text", 3, x.town());
    }

    private static void town() {
        e.says("Uses the TAPE up: a text of THE TOWN: how many there are. IllegalArgumentException: it is wrong; "
                + "UnsupportedOperationException: there are 12.");
        DryRiver x = new DryRiver();
        for (int text = 1; text <= 12; text++) {
            Check.put(x, Check.bytes("day " + text));
            e.is("text", text, x.town());
            e.is("used up", 0, Probe.tape(x));
        }
        Check.put(x, Check.bytes("day x"));
        e.refuses("wrong, and too many", Edges.ARGUMENT, x::town);
        e.is("used up by a wrong one", 0, Probe.tape(x));
        e.is("its fault", 4, x.fault());
        Check.put(x, Check.bytes("day 99"));
        e.refuses("too many", Edges.UNSUPPORTED, x::town);
        e.is("used up by one too many", 0, Probe.tape(x));
        e.is("no fault of it", NONE, x.fault());
        e.is("nothing of it", 12, x.count(4));
    }

    private static void law() {
        e.says("Uses the TAPE up: THE LAW: how many LINES. IllegalArgumentException: the text is wrong.");
        DryRiver x = new DryRiver();
        for (int lines = 1; lines <= 12; lines++) {
            Check.put(x, Check.bytes(Edges.repeated("raise 1", lines, ";")));
            e.is("lines", lines, x.law());
            e.is("as count tells", lines, x.count(3));
            e.is("used up", 0, Probe.tape(x));
        }
        Check.put(x, Check.bytes("raise"));
        e.refuses("wrong", Edges.ARGUMENT, x::law);
        e.is("used up by a wrong one", 0, Probe.tape(x));
        e.is("the one before stays", 12, x.count(3));
    }

    private static void fault() {
        e.says("The first wrong byte of the latest text that was read; NONE without one, and ahead of any.");
        DryRiver x = new DryRiver();
        e.is("ahead of any", NONE, x.fault());
        Check.put(x, Check.bytes("chest 5"));
        e.is("a text that is not read yet", NONE, x.fault());
        x.end(5);
        e.refuses("wrong", Edges.ARGUMENT, x::town);
        e.is("its length", 5, x.fault());
        e.is("it stays", 5, x.fault());
        Check.put(x, 1, 1, 0);
        x.river(50);
        Check.put(x, 9);
        e.refuses("tales are no text", Edges.ARGUMENT, () -> x.river(50));
        e.refuses("days", Edges.ARGUMENT, () -> x.days(0));
        x.days(1);
        x.undo();
        x.image();
        x.back();
        e.is("it stays through all of that", 5, x.fault());
        Check.law(x, "");
        e.is("a right one", NONE, x.fault());
        x.back();
        e.is("going back does not bring it", NONE, x.fault());
        Check.put(x, Check.bytes("x"));
        e.refuses("a wrong law", Edges.ARGUMENT, x::law);
        e.is("the first byte", 0, x.fault());
        x.back();
        e.is("going back does not take it", 0, x.fault());
        Check.town(x, "");
        e.is("a right text of the town behind a wrong law", NONE, x.fault());
    }

    private static void person() {
        e.says("NoSuchElementException: another what.");
        DryRiver x = two();
        int[] due = {50, 100, 0, 0, NONE, -3, 0, 100, 71};
        for (int what = 0; what <= 8; what++) {
            e.is("what " + what, due[what], x.person(0, what));
        }
        for (int what : new int[] {9, 10, -1, Edges.LEAST, Edges.GREATEST}) {
            e.refuses("what " + what, Edges.NO_SUCH, () -> x.person(0, what));
            e.refuses("what " + what + " of the last one", Edges.NO_SUCH, () -> x.person(1, what));
            e.refuses("what " + what + " of nobody", Edges.INDEX, () -> x.person(2, what));
        }
        for (int person : NO_PERSON) {
            for (int what = 0; what <= 8; what++) {
                int which = what;
                e.refuses("of " + person, Edges.INDEX, () -> x.person(person, which));
            }
        }
        personAway();
    }

    private static void personAway() {
        e.says("4 till which DAY it is away (NONE, if HERE), 5 PULL, 6 what it TURNS by now, 7 WORTH, 8 SHARE (5, 6 also of one "
                + "who is away, by those who are HERE).");
        DryRiver x = two();
        Check.law(x, "raise 1 if mean<21;raise 2 if belief>49;raise 4 if mean>49;raise 8 if ties>0");
        e.is("here", NONE, x.person(0, 4));
        e.is("turns, here", 2 + 8, x.person(0, 6));
        x.send(0);
        e.is("till day 6", 6, x.person(0, 4));
        e.is("pulled by the one who is here", -3, x.person(0, 5));
        e.is("turns by those who are here", 1 + 2 + 8, x.person(0, 6));
        e.is("worth", 100, x.person(0, 7));
        e.is("no share", 0, x.person(0, 8));
        x.send(1);
        e.is("nobody pulls", 0, x.person(0, 5));
        e.is("turns without anybody here", 1 + 2 + 8, x.person(0, 6));
        e.is("the other one, too", 1 + 8, x.person(1, 6));
        DryRiver none = Check.of("person 50 purse 0 dry");
        none.send(0);
        e.is("a dry one without a law turns when it is away", -1, none.person(0, 6));
        Check.town(none, "day 0");
        none.days(5);
        e.is("but does not believe less", 50, none.person(0, 0));
    }

    private static void trust() {
        e.says("TRUST of the first one in the other one. IllegalArgumentException: both are one.");
        DryRiver x = two();
        e.is("of the first", 5, x.trust(0, 1));
        e.is("of the other", 7, x.trust(1, 0));
        e.refuses("both are 0", Edges.ARGUMENT, () -> x.trust(0, 0));
        e.refuses("both are 1", Edges.ARGUMENT, () -> x.trust(1, 1));
        for (int bad : NO_PERSON) {
            e.refuses("of " + bad, Edges.INDEX, () -> x.trust(bad, 0));
            e.refuses("in " + bad, Edges.INDEX, () -> x.trust(0, bad));
            e.refuses("of and in " + bad, Edges.INDEX, () -> x.trust(bad, bad));
        }
    }

    private static void work() {
        e.says("Of a WORK what 0 COST, 1 NEED, 2 GAIN, 3 the STATE. NoSuchElementException: another what.");
        DryRiver x = two();
        int[] due = {1, 70, 2, 0};
        for (int what = 0; what <= 3; what++) {
            e.is("what " + what, due[what], x.work(0, what));
        }
        for (int what : new int[] {4, 5, -1, Edges.LEAST, Edges.GREATEST}) {
            e.refuses("what " + what, Edges.NO_SUCH, () -> x.work(0, what));
            e.refuses("what " + what + " of no work", Edges.INDEX, () -> x.work(1, what));
        }
        for (int bad : new int[] {1, 6, -1, Edges.LEAST, Edges.GREATEST}) {
            e.refuses("of " + bad, Edges.INDEX, () -> x.work(bad, 0));
        }
    }

    private static void price() {
        e.says("`int price()`: PRICE.");
        DryRiver x = two();
        // 70 by 2 is 35: 1225 by 50 is 24, and 1.
        e.is("of both", 25, x.price());
        x.send(0);
        e.is("of one", 9, x.price());
        x.send(1);
        e.is("of none", 1, x.price());
    }

    private static void tell() {
        e.says("Told: BELIEF then. IllegalStateException: that one is away.");
        DryRiver x = two();
        e.is("told", 70, x.tell(0));
        e.is("an act", 1, x.count(12));
        x.send(0);
        e.refuses("away", Edges.STATE, () -> x.tell(0));
        for (int bad : NO_PERSON) {
            e.refuses("told " + bad, Edges.INDEX, () -> x.tell(bad));
        }
        e.is("what throws is no act", 2, x.count(12));
    }

    private static void tie() {
        e.says("A TRUST is told: what it was. IllegalArgumentException: both are one, or it is none (0 to 9).");
        DryRiver x = two();
        e.is("the least", 5, x.tie(0, 1, 0));
        e.is("the greatest", 0, x.tie(0, 1, 9));
        e.is("the same", 9, x.tie(0, 1, 9));
        e.is("it is", 9, x.trust(0, 1));
        e.is("the other way stays", 7, x.trust(1, 0));
        for (int bad : new int[] {-1, 10, Edges.LEAST, Edges.GREATEST}) {
            e.refuses("a trust of " + bad, Edges.ARGUMENT, () -> x.tie(0, 1, bad));
            e.refuses("a trust of " + bad + " in oneself", Edges.ARGUMENT, () -> x.tie(1, 1, bad));
            e.refuses("a trust of " + bad + " of nobody", Edges.INDEX, () -> x.tie(2, 1, bad));
        }
        e.refuses("in oneself", Edges.ARGUMENT, () -> x.tie(0, 0, 5));
        for (int bad : NO_PERSON) {
            e.refuses("of " + bad, Edges.INDEX, () -> x.tie(bad, 0, 1));
            e.refuses("in " + bad, Edges.INDEX, () -> x.tie(0, bad, 1));
            e.refuses("of and in " + bad, Edges.INDEX, () -> x.tie(bad, bad, 10));
        }
        x.send(0);
        x.send(1);
        e.is("of and in those who are away", 7, x.tie(1, 0, 1));
        e.is("acts", 6, x.count(12));
    }

    private static void plan() {
        e.says("A WORK is planned anew. IllegalStateException: it is not fallen.");
        DryRiver x = two();
        e.refuses("planned", Edges.STATE, () -> x.plan(0));
        x.days(1);
        e.refuses("stands", Edges.STATE, () -> x.plan(0));
        x.send(0);
        x.days(1);
        e.is("fallen", 2, x.work(0, 3));
        x.plan(0);
        e.is("planned anew", 0, x.work(0, 3));
        e.refuses("planned twice", Edges.STATE, () -> x.plan(0));
        for (int bad : new int[] {1, 6, -1, Edges.LEAST, Edges.GREATEST}) {
            e.refuses("work " + bad, Edges.INDEX, () -> x.plan(bad));
        }
        e.is("acts", 4, x.count(12));
    }

    private static void send() {
        e.says("Sent away: till which DAY. IllegalStateException: that one is away.");
        DryRiver x = two();
        e.is("till", 6, x.send(0));
        e.refuses("away", Edges.STATE, () -> x.send(0));
        x.days(6);
        e.refuses("away on its day", Edges.STATE, () -> x.send(0));
        x.days(1);
        e.is("back, and sent again", 13, x.send(0));
        for (int bad : NO_PERSON) {
            e.refuses("sent " + bad, Edges.INDEX, () -> x.send(bad));
        }
        e.is("acts", 4, x.count(12));
    }

    private static void buy() {
        e.says("SHARES are bought: PURSE then. IllegalArgumentException: n is none (1 to 99); IllegalStateException: that one "
                + "would have more than 99, or PURSE is less than n PRICES.");
        // Nobody believes anything: a price of 1.
        DryRiver x = Check.of("person 0 purse 99;person 0 purse 98;person 0 purse 999;shares 2 1;person 0 purse 999");
        e.refuses("99 for 98", Edges.STATE, () -> x.buy(1, 99));
        e.is("98 for 98", 0, x.buy(1, 98));
        e.refuses("one for 0", Edges.STATE, () -> x.buy(1, 1));
        e.is("99 for 99", 0, x.buy(0, 99));
        e.refuses("a hundredth by 99 more", Edges.STATE, () -> x.buy(2, 99));
        e.is("98 more", 901, x.buy(2, 98));
        e.refuses("a hundredth by one more", Edges.STATE, () -> x.buy(2, 1));
        e.is("one", 998, x.buy(3, 1));
        e.is("the chest", 20 + 98 + 99 + 98 + 1, x.count(5));
        for (int bad : new int[] {0, -1, 100, Edges.LEAST, Edges.GREATEST}) {
            e.refuses("n " + bad, Edges.ARGUMENT, () -> x.buy(3, bad));
            e.refuses("n " + bad + ", which could not be, too", Edges.ARGUMENT, () -> x.buy(0, bad));
            e.refuses("n " + bad + " of nobody", Edges.INDEX, () -> x.buy(4, bad));
        }
        for (int bad : new int[] {4, 8, -1, Edges.LEAST, Edges.GREATEST}) {
            e.refuses("of " + bad, Edges.INDEX, () -> x.buy(bad, 1));
        }
        e.is("acts", 4, x.count(12));
        DryRiver dear = Check.of("person 99 purse 394");
        e.refuses("three at 197", Edges.STATE, () -> dear.buy(0, 3));
        e.is("two at 197", 0, dear.buy(0, 2));
        e.refuses("the most at 197", Edges.STATE, () -> dear.buy(0, 97));
    }

    private static void sell() {
        e.says("SHARES are sold: PURSE then (9999 at most). IllegalArgumentException: n is none (1 to 99); IllegalStateException: "
                + "that one has fewer, or the CHEST has less than n PRICES.");
        DryRiver x = Check.of("person 0 purse 0;shares 0 99;person 0 purse 0;shares 1 1;chest 99");
        e.refuses("two of one", Edges.STATE, () -> x.sell(1, 2));
        e.is("one of one", 1, x.sell(1, 1));
        e.refuses("one of none", Edges.STATE, () -> x.sell(1, 1));
        e.refuses("99 for 98", Edges.STATE, () -> x.sell(0, 99));
        e.is("98 for 98", 98, x.sell(0, 98));
        e.is("the chest is empty", 0, x.count(5));
        e.refuses("one for none", Edges.STATE, () -> x.sell(0, 1));
        Check.town(x, "chest 1");
        e.is("the last one", 99, x.sell(0, 1));
        e.is("no shares", 0, x.person(0, 2));
        for (int bad : new int[] {0, -1, 100, Edges.LEAST, Edges.GREATEST}) {
            e.refuses("n " + bad, Edges.ARGUMENT, () -> x.sell(0, bad));
            e.refuses("n " + bad + " of nobody", Edges.INDEX, () -> x.sell(2, bad));
        }
        for (int bad : NO_PERSON) {
            e.refuses("of " + bad, Edges.INDEX, () -> x.sell(bad, 1));
        }
        e.is("99 at once", 99, Check.of("person 0 purse 0;shares 0 99;chest 99").sell(0, 99));
        fullPurse();
    }

    private static void fullPurse() {
        DryRiver x = Check.of("person 99 purse 148;shares 0 99;chest 999;" + Edges.repeated("work 1 need 0 gain 20", 6, ";"),
                "raise 0");
        Edges.pass(x, 77);
        e.is("9998", 9998, x.sell(0, 50));
        x.send(0);
        e.is("9999 at a price of 1", 9999, x.sell(0, 1));
        e.is("9999 stay", 9999, x.sell(0, 48));
        e.is("the chest paid all the same", 9999 - 50 * 197 - 49, x.count(5));
        e.is("no shares left", 0, x.person(0, 2));
        e.is("the greatest purse buys", 9998, x.buy(0, 1));
    }

    private static void dry() {
        e.says("DRY, or not: whether that changed.");
        DryRiver x = two();
        e.is("made dry", true, x.dry(0, true));
        e.is("dry already", false, x.dry(0, true));
        e.is("is dry", 1, x.person(0, 3));
        e.is("made wet", true, x.dry(1, false));
        e.is("wet already", false, x.dry(1, false));
        e.is("is not dry", 0, x.person(1, 3));
        x.send(0);
        e.is("one who is away", true, x.dry(0, false));
        for (int bad : NO_PERSON) {
            e.refuses("of " + bad, Edges.INDEX, () -> x.dry(bad, true));
            e.refuses("not of " + bad, Edges.INDEX, () -> x.dry(bad, false));
        }
    }

    private static void days() {
        e.says("So many DAYS more (1 to 60): how many WORKS fell in these. IllegalArgumentException: they are none.");
        DryRiver x = Check.of("person 50 purse 0;" + Edges.repeated("work 1 need 50 gain 0", 6, ";"), "lower 1 if day>58");
        for (int bad : new int[] {0, -1, 61, 100, Edges.LEAST, Edges.GREATEST}) {
            e.refuses("n " + bad, Edges.ARGUMENT, () -> x.days(bad));
        }
        e.is("no act", 0, x.count(12));
        e.is("no day", 0, x.count(4));
        e.is("all six fall on the last of sixty", 6, x.days(60));
        e.is("sixty days", 60, x.count(4));
        e.is("one act", 1, x.count(12));
        x.undo();
        e.is("none falls in 59", 0, x.days(59));
        e.is("six on the next", 6, x.days(1));
        e.is("none once more", 0, x.days(60));
        e.is("days without anybody", 0, new DryRiver().days(60));
    }

    private static void log() {
        e.says("THE LOG so many ago (0 the latest) what 0 DAY, 1 the WORK or the PERSON, 2 what it was, 3 BELIEVED; NONE without. "
                + "NoSuchElementException: another what.");
        DryRiver x = two();
        for (int ago : new int[] {0, 1, 59, 60, -1, Edges.LEAST, Edges.GREATEST}) {
            for (int what = 0; what <= 3; what++) {
                e.is("without a row", NONE, x.log(ago, what));
            }
            for (int bad : new int[] {4, -1, Edges.LEAST, Edges.GREATEST}) {
                e.refuses("what " + bad + " without a row", Edges.NO_SUCH, () -> x.log(ago, bad));
            }
        }
        Check.town(x, "day 9");
        x.days(1);
        // Of 30 that they differ by the first is pulled 150 by 40, the second 210 by 40.
        int[] due = {9, 0, 0, 72};
        for (int what = 0; what <= 3; what++) {
            e.is("the latest", due[what], x.log(0, what));
            e.is("one ago", NONE, x.log(1, what));
            e.is("one ahead", NONE, x.log(-1, what));
        }
        for (int bad : new int[] {4, -1, Edges.LEAST, Edges.GREATEST}) {
            e.refuses("what " + bad, Edges.NO_SUCH, () -> x.log(0, bad));
        }
    }

    private static void seed() {
        e.says("`int seed(int n)`: SEED: what it was.");
        DryRiver x = two();
        int was = 1;
        for (int seed : new int[] {0, -1, Edges.LEAST, Edges.GREATEST, 5}) {
            e.is("what it was", was, x.seed(seed));
            was = seed;
        }
        e.is("no act", 0, x.count(12));
        x.tell(0);
        x.seed(9);
        x.undo();
        e.is("as it was ahead of the act", 5, x.seed(7));
        e.is("told by it itself", 7, x.seed(7));
    }

    private static void undo() {
        e.says("UNDONE: the latest ACT not undone yet (12 are remembered; DAYS of one call are one): all is as ahead of it");
        DryRiver x = Check.of("person 50 purse 200;person 50 purse 100;trusts 0 05;shares 1 5;work 1 need 90 gain 2;journey 1;"
                + "truth 100;day 5", "lower 1");
        e.is("no act", false, x.undo());
        String[] ahead = new String[12];
        int at = 0;
        ahead[at++] = Probe.all(x);
        x.days(6);
        ahead[at++] = Probe.all(x);
        x.plan(0);
        ahead[at++] = Probe.all(x);
        x.tell(0);
        ahead[at++] = Probe.all(x);
        x.tie(0, 1, 9);
        ahead[at++] = Probe.all(x);
        x.dry(1, true);
        ahead[at++] = Probe.all(x);
        x.buy(0, 1);
        ahead[at++] = Probe.all(x);
        x.sell(1, 1);
        ahead[at++] = Probe.all(x);
        x.send(1);
        ahead[at++] = Probe.all(x);
        x.send(0);
        ahead[at++] = Probe.all(x);
        x.days(60);
        ahead[at++] = Probe.all(x);
        x.dry(0, false);
        ahead[at++] = Probe.all(x);
        x.tell(1);
        e.is("twelve acts", 12, x.count(12));
        while (at > 0) {
            at--;
            e.is("undone", true, x.undo());
            e.is("all is as ahead of act " + at, ahead[at], Probe.all(x));
        }
        e.is("no more", false, x.undo());
        e.is("nothing happens", ahead[0], Probe.all(x));
    }

    private static final int[] BELIEFS = {51, 42, 33, 64, 75, 86, 97, 28};

    /** Eight people and six works, each with numbers of its own in all that it has. */
    private static DryRiver eight() {
        DryRiver x = new DryRiver();
        for (int person = 0; person < 8; person++) {
            Check.town(x, "person " + BELIEFS[person] + " purse " + (100 + 10 * person) + (person % 3 == 1 ? " dry" : ""));
        }
        Check.town(x, "trusts 0 01234567;trusts 1 90876543;trusts 2 21034567;trusts 3 98706543;trusts 4 13570246;trusts 5 24681030;"
                + "trusts 6 86421907;trusts 7 75319860;journey 3;truth 40;chest 60;day 5");
        Check.town(x, "shares 0 1;shares 1 3;shares 2 5;shares 3 7;shares 4 9;shares 5 11;shares 6 13;shares 7 15;"
                + "work 11 need 100 gain 1;work 12 need 200 gain 2;work 13 need 300 gain 3;work 14 need 400 gain 4;"
                + "work 15 need 799 gain 5;work 16 need 150 gain 6");
        Check.law(x, "lower 9 if day>5");
        return x;
    }

    private static void fullTown() {
        DryRiver x = eight();
        int dry = 0;
        int shares = 0;
        for (int person = 0; person < 8; person++) {
            int one = 2 * person + 1;
            e.is("belief of " + person, BELIEFS[person], x.person(person, 0));
            e.is("purse of " + person, 100 + 10 * person, x.person(person, 1));
            e.is("shares of " + person, one, x.person(person, 2));
            e.is("dry is " + person, person % 3 == 1 ? 1 : 0, x.person(person, 3));
            // 476 by 8 is 59: 3481 by 50 is 69, and 1.
            e.is("worth of " + person, 100 + 10 * person + one * 70, x.person(person, 7));
            e.is("share of " + person, BELIEFS[person] * 100 / 476, x.person(person, 8));
            e.is("ahead by 0 of " + person, BELIEFS[person], x.ahead(person, 0));
            dry |= x.person(person, 3) << person;
            shares += one;
        }
        e.is("the dry ones", 2 | 16 | 128, dry);
        e.is("shares of all", shares, x.count(10));
        int[] costs = {11, 12, 13, 14, 15, 16};
        int[] needs = {100, 200, 300, 400, 799, 150};
        for (int work = 0; work < 6; work++) {
            e.is("cost of " + work, costs[work], x.work(work, 0));
            e.is("need of " + work, needs[work], x.work(work, 1));
            e.is("gain of " + work, work + 1, x.work(work, 2));
        }
        e.is("works for 60: all that are believed but the first", 2 | 4 | 8 | 32, x.chosen(false));
        e.is("how much", 15, x.chosen(true));
        comesAgain(x);
        actsOfEach();
    }

    /** All of a full town is as it was behind an act undone, and behind going back. */
    private static void comesAgain(DryRiver x) {
        String before = Probe.all(x);
        x.image();
        for (int person = 0; person < 8; person++) {
            x.send(person);
        }
        x.days(4);
        e.is("all came back", 255, x.count(7));
        x.days(60);
        x.undo();
        x.undo();
        for (int person = 7; person >= 0; person--) {
            e.is("all but " + person + " are away", 255 & ~(255 >> 7 - person), x.count(7));
            x.undo();
        }
        e.is("all undone", before, Probe.all(x));
        for (int person = 0; person < 8; person++) {
            x.dry(person, person % 3 != 1);
            x.tie(person, (person + 1) % 8, 0);
            x.buy(person, 1);
            x.sell(7 - person, 1);
        }
        x.days(60);
        x.back();
        e.is("all as in the image", before, Probe.all(x));
    }

    /** What an act answers, and what it does, is of the one that is named. */
    private static void actsOfEach() {
        for (int person = 0; person < 8; person++) {
            DryRiver x = eight();
            int price = x.price();
            e.is("told " + person, Math.min(99, BELIEFS[person] + 20), x.tell(person));
            x.undo();
            e.is("bought by " + person, 100 + 10 * person - price, x.buy(person, 1));
            e.is("shares of " + person, 2 * person + 2, x.person(person, 2));
            e.is("sold by " + person, 100 + 10 * person, x.sell(person, 1));
            e.is("sent " + person, 8, x.send(person));
            Check.town(x, "journey 9");
            e.is("sent behind " + person, 14, x.send((person + 1) % 8));
            e.is("till when " + person, 8, x.person(person, 4));
        }
        DryRiver x = eight();
        Check.law(x, "raise 0");
        Check.town(x, "trusts 0 00000000;trusts 1 00000000;trusts 2 00000000;trusts 3 00000000;trusts 4 00000000;trusts 5 00000000;"
                + "trusts 6 00000000;trusts 7 00000000");
        x.days(1);
        e.is("four stand for 50, the fifth is not believed, the sixth is 16", 1 | 2 | 4 | 8, x.count(8));
        for (int person = 0; person < 8; person++) {
            x.send(person);
        }
        e.is("four fall", 4, x.days(1));
        Check.town(x, "");
        int[] order = {2, 0, 3, 1};
        int fallen = 1 | 2 | 4 | 8;
        for (int work : order) {
            e.is("fallen " + work, 2, x.work(work, 3));
            x.plan(work);
            fallen &= ~(1 << work);
            e.is("planned anew " + work, 0, x.work(work, 3));
            e.is("fallen still", fallen, x.count(9));
            e.refuses("planned already " + work, Edges.STATE, () -> x.plan(work));
        }
    }

    private static void undoneAll() {
        e.says("(but for the TAPE, fault(), THE IMAGE; an ACT that went as the thirteenth came is remembered no more)");
        DryRiver x = two();
        x.tell(0);
        x.image();
        x.tell(0);
        Check.put(x, Check.bytes("x"));
        e.refuses("wrong", Edges.ARGUMENT, x::town);
        Check.put(x, 1, 2, 3);
        e.is("undone", true, x.undo());
        e.is("the tape stays", 3, Probe.tape(x));
        e.is("fault stays", 0, x.fault());
        e.is("undone to ahead of the image", true, x.undo());
        e.is("belief at first", 50, x.person(0, 0));
        e.is("the image stays", true, x.back());
        e.is("belief of the image", 70, x.person(0, 0));
        e.is("the tape stays behind that", 3, Probe.tape(x));
    }

    private static void thirteenActs() {
        e.says("an ACT that went as the thirteenth came is remembered no more");
        DryRiver x = two();
        for (int act = 1; act <= 12; act++) {
            x.tie(0, 1, act % 9);
            e.is("acts", act, x.count(12));
        }
        x.tell(1);
        e.is("twelve still", 12, x.count(12));
        for (int left = 11; left >= 0; left--) {
            e.is("undone", true, x.undo());
            e.is("acts left", left, x.count(12));
        }
        e.is("the first one cannot be undone", false, x.undo());
        e.is("it stays", 1, x.trust(0, 1));
        e.is("the thirteenth was undone", 20, x.person(1, 0));
        for (int act = 0; act < 30; act++) {
            x.tie(0, 1, act % 10);
        }
        e.is("twelve of thirty", 12, x.count(12));
        x.undo();
        x.undo();
        e.is("ten of thirty", 10, x.count(12));
        x.tell(0);
        x.tell(0);
        x.tell(0);
        e.is("thirteen again: twelve", 12, x.count(12));
        int undone = 0;
        while (x.undo()) {
            undone++;
        }
        e.is("twelve were undone", 12, undone);
        e.is("what the nineteenth act made of it", 18 % 10, x.trust(0, 1));
    }

    private static void whatForgets() {
        e.says("A text, going back: none are remembered.");
        DryRiver x = two();
        x.tell(0);
        Check.town(x, "");
        e.is("an empty text of the town", 0, x.count(12));
        e.is("nothing to undo", false, x.undo());
        e.is("what was told stays", 70, x.person(0, 0));
        x.tell(0);
        Check.law(x, "");
        e.is("an empty law", 0, x.count(12));
        e.is("nothing to undo, again", false, x.undo());
        x.tell(1);
        x.image();
        e.is("an image forgets nothing", 1, x.count(12));
        x.back();
        e.is("going back does", 0, x.count(12));
        e.is("nothing to undo behind it", false, x.undo());
        x.tell(1);
        Check.put(x, Check.bytes("x"));
        e.refuses("a wrong text of the town", Edges.ARGUMENT, x::town);
        e.is("does not", 1, x.count(12));
        Check.put(x, Check.bytes("x"));
        e.refuses("a wrong law", Edges.ARGUMENT, x::law);
        e.is("does not, either", 1, x.count(12));
        for (int text = x.count(2); text < 12; text++) {
            Check.town(x, "");
        }
        x.tell(1);
        Check.put(x);
        e.refuses("a thirteenth text", Edges.UNSUPPORTED, x::town);
        e.is("nor does it", 1, x.count(12));
        Check.put(x, 1);
        x.river(50);
        Check.put(x, 0, 1, 1);
        x.ask();
        x.seed(5);
        e.is("nor tales, what people say, or a seed", 1, x.count(12));
        DryRiver none = two();
        none.tell(0);
        e.is("going back to nothing", false, none.back());
        e.is("forgets nothing", 1, none.count(12));
    }

    private static void image() {
        e.says("THE IMAGE (one) of all may be kept, and gone back to (but for the TAPE, fault() and THE IMAGE itself).");
        DryRiver x = two();
        x.days(1);
        x.send(1);
        x.seed(77);
        x.image();
        String kept = Probe.all(x);
        Check.town(x, "person 9 purse 9;trusts 0 099;trusts 1 909;trusts 2 990;shares 0 9;work 9 need 9 gain 9;chest 9;journey 9;"
                + "truth 9;day 9");
        Check.law(x, "raise 9;lower 1 if dry");
        x.tell(0);
        x.days(60);
        e.is("back", true, x.back());
        e.is("all but the acts", kept.replace(",2, seed", ",0, seed"), Probe.all(x));
        e.is("the journey, too", 7, x.send(0));
        e.is("back again: the image stays", true, x.back());
        e.is("all but the acts, again", kept.replace(",2, seed", ",0, seed"), Probe.all(x));
        x.tell(0);
        x.image();
        x.tell(0);
        e.is("back to the later one", true, x.back());
        e.is("one image alone", 50 - 3 + 20, x.person(0, 0));
        // A place that somebody else had is new for one who comes behind it.
        DryRiver y = Check.of("person 1 purse 1");
        y.image();
        Check.town(y, "person 2 purse 2 dry;trusts 0 05;trusts 1 50;shares 1 7;work 1 need 0 gain 1");
        y.send(1);
        y.days(1);
        y.back();
        Check.town(y, "person 3 purse 3;work 2 need 799 gain 2");
        e.is("not dry", 0, y.person(1, 3));
        e.is("no shares", 0, y.person(1, 2));
        e.is("here", NONE, y.person(1, 4));
        e.is("nobody trusts it", 0, y.trust(0, 1));
        e.is("it trusts nobody", 0, y.trust(1, 0));
        e.is("planned", 0, y.work(0, 3));
    }

    private static void back() {
        e.says("One goes back to THE IMAGE: true; false, and nothing happens, if none was kept.");
        DryRiver x = two();
        x.tell(0);
        String before = Probe.all(x);
        e.is("none was kept", false, x.back());
        e.is("nothing happens", before, Probe.all(x));
        DryRiver empty = new DryRiver();
        empty.image();
        Check.town(empty, "person 1 purse 1");
        Check.law(empty, "raise 1");
        e.is("back to the beginning", true, empty.back());
        e.is("nobody", 0, empty.count(0));
        e.is("no text", 0, empty.count(2));
        e.is("no law", NONE, empty.count(3));
        Check.town(empty, "person 50 purse 1 dry");
        e.is("turns without a law", -1, empty.person(0, 6));
    }

    private static void count() {
        e.says("3 LINES of THE LAW (NONE without one)");
        e.is("without one", NONE, new DryRiver().count(3));
        e.is("of none", 0, Check.of("", "").count(3));
        e.says("12 acts that can be UNDONE. NONE for another what.");
        DryRiver x = Check.of(Edges.repeated("person 99 purse 0", 8, ";") + ";" + Edges.repeated("work 1 need 792 gain 0", 6, ";"),
                "raise 0");
        Check.town(x, "shares 0 99;shares 1 99;shares 2 99;shares 3 99;shares 4 99;shares 5 99;shares 6 99;shares 7 99;day 999;"
                + "chest 999");
        x.days(1);
        int[] due = {8, 6, 2, 1, 1000, 993, 792, 255, 63, 0, 792, 6, 1};
        for (int what = 0; what <= 12; what++) {
            e.is("count " + what, due[what], x.count(what));
        }
        x.tie(0, 1, 1);
        x.send(0);
        x.days(1);
        int[] then = {8, 6, 2, 1, 1001, 993, 693, 254, 0, 63, 792, 12, 4};
        for (int what = 0; what <= 12; what++) {
            e.is("count then " + what, then[what], x.count(what));
        }
        for (int bad : new int[] {13, 14, 100, -1, -2, Edges.LEAST, Edges.GREATEST}) {
            e.is("count " + bad, NONE, x.count(bad));
        }
    }
}
