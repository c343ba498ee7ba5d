/** The edges of how a day passes, of what is ahead, of the acts and of the log, sentence by sentence. */
final class DayEdgesTest {
    private static final int NONE = Edges.NONE;
    private static Edges e;

    public static void main(String[] args) throws Exception {
        e = new Edges("DayEdgesTest");
        pull();
        beliefsTurn();
        worksStand();
        worksFall();
        worksByNumbers();
        chestIsFull();
        comingBack();
        talesHeard();
        truths();
        lastDay();
        draws();
        ahead();
        told();
        sentAway();
        boughtAndSold();
        log();
        e.close();
    }

    /** What the first one is pulled by, of whom the others believe more (or less) by so much and whom it trusts so. */
    private static int pull(int own, String trusts, int... others) {
        StringBuilder town = new StringBuilder("person " + own + " purse 0");
        for (int other : others) {
            town.append(";person ").append(other).append(" purse 0");
        }
        return Check.of(town + ";trusts 0 " + trusts).person(0, 5);
    }

    private static void pull() {
        e.says("PULL of a PERSON: of each other one HERE TRUST in that one times what that one believes more (less: below 0), "
                + "all these together, by 40 (what is left is dropped: towards 0).");
        e.is("39", 0, pull(50, "03", 63));
        e.is("-39", 0, pull(50, "03", 37));
        e.is("40", 1, pull(50, "05", 58));
        e.is("-40", -1, pull(50, "05", 42));
        e.is("79", 1, pull(50, "097", 58, 51));
        e.is("-79", -1, pull(50, "097", 42, 49));
        e.is("80", 2, pull(50, "08", 60));
        e.is("-80", -2, pull(50, "08", 40));
        e.is("all together, then by 40", 1, pull(50, "011", 70, 70));
        e.is("more and less together", 0, pull(50, "0909", 90, 99, 10));
        e.is("no trust", 0, pull(0, "00", 99));
        e.is("the most", 7 * 9 * 99 / 40, pull(0, "09999999", 99, 99, 99, 99, 99, 99, 99));
        e.is("the least", -(7 * 9 * 99 / 40), pull(99, "09999999", 0, 0, 0, 0, 0, 0, 0));
        e.is("the own figure does not pull", 0, pull(50, "9"));
        DryRiver x = Check.of("person 0 purse 0;person 99 purse 0;person 40 purse 0;trusts 0 099;trusts 1 909");
        e.is("both", (891 + 360) / 40, x.person(0, 5));
        x.send(1);
        e.is("without one who is away", 9, x.person(0, 5));
        e.is("of one who is away, by those here", (-891 - 531) / 40, x.person(1, 5));
        x.send(0);
        e.is("of one who is away, by one here", -531 / 40, x.person(1, 5));
        x.send(2);
        e.is("by nobody", 0, x.person(1, 5));
    }

    private static void beliefsTurn() {
        e.says("(a) BELIEF of each PERSON HERE is PULL and what it TURNS by more (0 to 99): of all by what is so ahead of (a).");
        e.is("98 and 1", 99, behind(98, "raise 1", 1));
        e.is("99 and 1", 99, behind(99, "raise 1", 1));
        e.is("70 and 30", 99, behind(70, "raise 30", 1));
        e.is("0 and 360", 99, behind(0, Edges.repeated("raise 30", 12, ";"), 1));
        e.is("1 less 1", 0, behind(1, "lower 1", 1));
        e.is("0 less 1", 0, behind(0, "lower 1", 1));
        e.is("99 less 360", 0, behind(99, Edges.repeated("lower 30", 12, ";"), 1));
        e.is("a dry one without a law", 49, behindWithout("person 50 purse 0 dry", 1));
        e.is("a dry one at 0 without a law", 0, behindWithout("person 0 purse 0 dry", 1));
        // The pull is 14 (567 by 40): it is not held at 99 ahead of what one turns by.
        DryRiver x = Check.of("person 90 purse 0;" + Edges.persons(99, 99, 99, 99, 99, 99, 99) + ";trusts 0 09999999",
                "lower 14 if who<1");
        x.days(1);
        e.is("pull and turn together", 90, x.person(0, 0));
        DryRiver two = Check.of("person 99 purse 0;person 0 purse 0;trusts 0 09;trusts 1 90", "raise 0");
        two.days(1);
        e.is("the first by what was so", 99 - 22, two.person(0, 0));
        e.is("the second by what was so", 22, two.person(1, 0));
        // By what is so ahead of (a) the mean is 50 for both.
        DryRiver mean = Check.of("person 50 purse 0;person 50 purse 0", "lower 30 if who<1;raise 1 if mean>49");
        mean.days(1);
        e.is("the mean ahead of it, for the first", 21, mean.person(0, 0));
        e.is("the mean ahead of it, for the second", 51, mean.person(1, 0));
        DryRiver away = Check.of("person 50 purse 0;person 10 purse 0 dry;trusts 0 09;trusts 1 90;journey 30");
        away.send(1);
        away.days(9);
        e.is("one who is away does not turn", 10, away.person(1, 0));
        e.is("nor pull", 50, away.person(0, 0));
        // Works of the day before, and the day itself, are those ahead of (a).
        DryRiver works = Check.of("person 50 purse 0;work 1 need 0 gain 0", "raise 7 if works>0;raise 1 if day>0");
        works.days(1);
        e.is("no work stood, day 0", 50, works.person(0, 0));
        works.days(1);
        e.is("a work stood, day 1", 58, works.person(0, 0));
    }

    private static int behind(int belief, String law, int days) {
        DryRiver x = Check.of("person " + belief + " purse 0", law);
        x.days(days);
        return x.person(0, 0);
    }

    private static int behindWithout(String town, int days) {
        DryRiver x = Check.of(town);
        x.days(days);
        return x.person(0, 0);
    }

    private static int state(String town, int days) {
        DryRiver x = Check.of(town, "raise 0");
        x.days(days);
        return x.work(0, 3);
    }

    private static void worksStand() {
        e.says("a planned one stands, if BELIEVED is NEED at least and the CHEST has COST, which is paid");
        e.is("just believed", 1, state("person 50 purse 0;work 20 need 50 gain 0", 1));
        e.is("not quite believed", 0, state("person 50 purse 0;work 20 need 51 gain 0", 1));
        e.is("just paid", 1, state("person 50 purse 0;work 9 need 50 gain 0;chest 9", 1));
        e.is("not quite paid", 0, state("person 50 purse 0;work 9 need 50 gain 0;chest 8", 1));
        e.is("a need of 0 without anybody", 1, state("work 20 need 0 gain 0", 1));
        e.is("a need of 1 without anybody", 0, state("work 20 need 1 gain 0", 1));
        e.is("the most that is believed", 1, state(Edges.persons(99, 99, 99, 99, 99, 99, 99, 99) + ";work 20 need 792 gain 0", 1));
        e.is("more than can be believed", 0, state(Edges.persons(99, 99, 99, 99, 99, 99, 99, 99) + ";work 20 need 793 gain 0", 60));
        DryRiver x = Check.of("work 20 need 0 gain 20");
        x.days(1);
        e.is("paid", 0, x.count(5));
        // BELIEVED is that behind (a).
        DryRiver y = Check.of("person 49 purse 0;work 1 need 50 gain 0", "raise 1 if day<1");
        y.days(1);
        e.is("believed behind (a)", 1, y.work(0, 3));
        DryRiver away = Check.of("person 50 purse 0;work 1 need 50 gain 0;truth 100;journey 1", "raise 0");
        away.send(0);
        away.days(2);
        e.is("one who comes back in (c) is not believed in (b)", 0, away.work(0, 3));
        away.days(1);
        e.is("but on the next day", 1, away.work(0, 3));
    }

    private static void worksFall() {
        e.says("one that stands falls, if BELIEVED is less than NEED, else the CHEST has GAIN more (9999 at most; one that "
                + "begins to stand gains from the next DAY on).");
        DryRiver x = Check.of("person 52 purse 0;work 20 need 50 gain 7", "lower 1");
        x.days(1);
        e.is("it begins to stand", 1, x.work(0, 3));
        e.is("no gain on that day", 0, x.count(5));
        e.is("none falls", 0, x.days(1));
        e.is("just believed", 1, x.work(0, 3));
        e.is("its gain", 7, x.count(5));
        e.is("one falls", 1, x.days(1));
        e.is("believed less", 2, x.work(0, 3));
        e.is("no gain of one that falls", 7, x.count(5));
        Check.law(x, "raise 30");
        e.is("none falls again", 0, x.days(9));
        e.is("a fallen one stays fallen", 2, x.work(0, 3));
        e.is("and gains nothing", 7, x.count(5));
        x.plan(0);
        Check.town(x, "chest 20");
        x.days(1);
        e.is("planned anew it stands", 1, x.work(0, 3));
        e.is("and is paid anew", 0, x.count(5));
        DryRiver none = Check.of("work 1 need 0 gain 0");
        none.days(60);
        e.is("a need of 0 never falls", 1, none.work(0, 3));
        e.is("a gain of 0", 19, none.count(5));
    }

    private static void worksByNumbers() {
        e.says("(b) Each WORK, by numbers:");
        DryRiver x = Check.of("work 10 need 0 gain 1;work 9 need 0 gain 1;work 5 need 0 gain 1");
        x.days(1);
        e.is("the first two are paid", 3, x.count(8));
        e.is("what is left", 1, x.count(5));
        x.days(1);
        e.is("gains of that day", 3, x.count(5));
        x.days(1);
        e.is("the gains of lower numbers pay on their day", 7, x.count(8));
        e.is("what is left then", 0, x.count(5));
        DryRiver y = Check.of("work 21 need 0 gain 1;work 20 need 0 gain 20");
        y.days(1);
        e.is("the second one alone", 2, y.count(8));
        y.days(1);
        e.is("a gain of a higher number comes behind it", 2, y.count(8));
        e.is("that gain", 20, y.count(5));
        y.days(1);
        e.is("not yet", 2, y.count(8));
        y.days(1);
        e.is("on the next day", 3, y.count(8));
    }

    private static void chestIsFull() {
        e.says("else the CHEST has GAIN more (9999 at most");
        DryRiver x = Check.of("chest 999;" + Edges.repeated("work 1 need 0 gain 20", 6, ";"));
        // 993 behind the first day, 120 more on each.
        Edges.pass(x, 76);
        e.is("behind 76 days", 9993, x.count(5));
        e.is("ahead by one", 9999, x.then(1, true));
        e.is("a trial by one", 9999, x.trial(1, true));
        x.days(1);
        e.is("full", 9999, x.count(5));
        x.days(60);
        e.is("it stays full", 9999, x.count(5));
    }

    private static void comingBack() {
        e.says("(c) Each PERSON that is away till DAY or earlier, by numbers, comes back and tells:");
        DryRiver x = Check.of("person 10 purse 0;journey 3;truth 100", "raise 0");
        x.send(0);
        x.days(3);
        e.is("day 3 has not passed", 3, x.person(0, 4));
        x.days(1);
        e.is("it came back on day 3", NONE, x.person(0, 4));
        e.is("as the log says", 3, x.log(0, 0));
        x.send(0);
        Check.town(x, "day 100");
        x.days(1);
        e.is("away till earlier", NONE, x.person(0, 4));
        e.is("back on the day that was", 100, x.log(0, 0));
        x.send(0);
        Check.town(x, "day 0");
        x.days(60);
        e.is("a day that was set back", 104, x.person(0, 4));
        x.days(44);
        e.is("still away", 104, x.person(0, 4));
        x.days(1);
        e.is("back at last", NONE, x.person(0, 4));
        // From seed 1 draws by 100 are 38, 58, 13, 15, 51, 27, 10, 19: by numbers, whoever was sent first.
        DryRiver eight = Check.of(Edges.persons(5, 5, 5, 5, 5, 5, 5, 5) + ";journey 1", "raise 0");
        for (int person = 7; person >= 0; person--) {
            eight.send(person);
        }
        eight.days(2);
        int[] due = {99, 0, 99, 99, 0, 99, 99, 99};
        for (int person = 0; person < 8; person++) {
            e.is("the tale of " + person, due[person], eight.person(person, 0));
            e.is("the row of " + person, person, eight.log(7 - person, 1));
            e.is("what it was of " + person, due[person] == 99 ? 2 : 3, eight.log(7 - person, 2));
        }
        e.is("eight rows", 8, eight.count(11));
    }

    private static void talesHeard() {
        e.says("BELIEF of each other one HERE then (one that came back ahead of it, too) is TRUST in that one more, or less "
                + "(0 to 99); that one's own is 99, or 0.");
        // The last one comes back; the others trust it with 0, 1, 9, 9, 5 and 5.
        String trusts = ";trusts 0 0000000;trusts 1 0000001;trusts 2 0000009;trusts 3 0000009;trusts 4 0000005;"
                + "trusts 5 0000005;trusts 6 9999999";
        String law = "raise 0";
        int[] beliefs = {50, 98, 90, 91, 95, 94, 40};
        DryRiver x = Check.of(Edges.persons(beliefs) + ";journey 1");
        Check.town(x, trusts.substring(1) + ";truth 100");
        Check.law(x, law);
        x.send(6);
        x.days(2);
        int[] due = {50, 99, 99, 99, 99, 99, 99};
        for (int person = 0; person < 7; person++) {
            e.is("water: " + person, due[person], x.person(person, 0));
        }
        int[] low = {50, 1, 9, 8, 5, 6, 40};
        DryRiver y = Check.of(Edges.persons(low) + ";journey 1");
        Check.town(y, trusts.substring(1) + ";truth 0");
        Check.law(y, law);
        y.send(6);
        y.days(2);
        int[] then = {50, 0, 0, 0, 0, 1, 0};
        for (int person = 0; person < 7; person++) {
            e.is("none: " + person, then[person], y.person(person, 0));
        }
        // Both come back: the first hears the second, the second does not hear the first; a third is still away.
        DryRiver z = Check.of("person 5 purse 0;person 5 purse 0;person 50 purse 0;trusts 0 077;trusts 1 707;trusts 2 990;"
                + "journey 1;truth 50", law);
        z.send(0);
        z.send(1);
        Check.town(z, "journey 30");
        z.send(2);
        z.days(2);
        e.is("water (38), then none (58) by one it trusts", 99 - 7, z.person(0, 0));
        e.is("none", 0, z.person(1, 0));
        e.is("one who is away hears nothing", 50, z.person(2, 0));
        for (int truth = 0; truth <= 100; truth += 100) {
            DryRiver far = Check.of("person 5 purse 0;person 50 purse 0;person 50 purse 0;trusts 1 900;trusts 2 900;journey 30",
                    law);
            far.send(1);
            Check.town(far, "journey 1;truth " + truth);
            far.send(0);
            far.days(2);
            e.is("nor by truth " + truth, 50, far.person(1, 0));
            e.is("one who is here hears it", truth == 0 ? 41 : 59, far.person(2, 0));
        }
    }

    private static void truths() {
        e.says("there is water, if DRAW modulo 100 is below TRUTH, else there is none");
        // The first draws by 100 from seed 1: 38.
        e.is("38 below 39", 99, tale(39, 1));
        e.is("38 not below 38", 0, tale(38, 1));
        int zero = seedOf(0);
        int most = seedOf(99);
        e.is("0 is not below 0", 0, tale(0, zero));
        e.is("0 is below 1", 99, tale(1, zero));
        e.is("99 is not below 99", 0, tale(99, most));
        e.is("99 is below 100", 99, tale(100, most));
    }

    private static int draw(int seed) {
        long next = 1103515245L * seed + 12345;
        return (int) (next >> 16 & 0x7fff);
    }

    private static int seedOf(int drawBy100) {
        int seed = 0;
        while (draw(seed) % 100 != drawBy100) {
            seed++;
        }
        return seed;
    }

    private static int tale(int truth, int seed) {
        DryRiver x = Check.of("person 40 purse 0;journey 1;truth " + truth, "raise 0");
        x.seed(seed);
        x.send(0);
        x.days(2);
        return x.person(0, 0);
    }

    private static void lastDay() {
        e.says("(d) DAY is 1 more (9999 at most).");
        DryRiver x = Check.of("person 50 purse 0;day 999;journey 2;truth 100", "raise 1 if day>998+999+999+999+999+999+999+999+"
                + "999+999+9");
        Edges.pass(x, 8998);
        e.is("9997", 9997, x.count(4));
        e.is("sent till 9999", 9999, x.send(0));
        e.is("who comes back on 9999", 9999, x.home());
        x.days(2);
        e.is("9999", 9999, x.count(4));
        e.is("still away", 9999, x.person(0, 4));
        x.days(1);
        e.is("9999 stays", 9999, x.count(4));
        e.is("back on the last day", NONE, x.person(0, 4));
        e.is("the row's day", 9999, x.log(0, 0));
        e.is("sent beyond the last day", 10001, x.send(0));
        e.is("nobody ever comes back", NONE, x.home());
        x.undo();
        Check.town(x, "journey 1");
        e.is("sent just beyond the last day", 10000, x.send(0));
        e.is("nobody ever comes back from that, either", NONE, x.home());
        x.days(1);
        x.undo();
        x.undo();
        Check.town(x, "journey 2");
        x.send(0);
        x.days(60);
        e.is("away for ever", 10001, x.person(0, 4));
        e.is("9999 still", 9999, x.count(4));
        e.is("ahead, too", 0, x.then(100, false));
        x.undo();
        x.undo();
        e.is("the law knows the day: above 9998", 1, x.person(0, 6));
        Check.law(x, "raise 1 if day>999+999+999+999+999+999+999+999+999+999+9");
        e.is("not above 9999", 0, x.person(0, 6));
    }

    private static void draws() {
        e.says("DRAW: SEED is 1103515245 times SEED and 12345, as an int that goes round; bits 16 to 30 (SEED 1 at first).");
        e.is("at first", 1, new DryRiver().seed(7));
        int[] seeds = {0, 1, 2, -1, -2, 12345, Integer.MAX_VALUE, Integer.MIN_VALUE, Integer.MIN_VALUE + 1, 1 << 16, 1 << 30,
            0x55555555, 0xaaaaaaaa};
        boolean above = false;
        boolean below = false;
        for (int seed : seeds) {
            int next = (int) (1103515245L * seed + 12345);
            int of100 = draw(seed) % 100;
            above |= next >= 0;
            below |= next < 0;
            e.is("not below, from " + seed, 0, tale(of100, seed));
            e.is("below, from " + seed, 99, tale(of100 + 1, seed));
            DryRiver x = Check.of("person 40 purse 0;journey 1");
            x.seed(seed);
            x.send(0);
            x.days(1);
            e.is("no draw ahead of a tale, from " + seed, seed, x.seed(seed));
            x.days(1);
            e.is("the seed behind a draw, from " + seed, next, x.seed(0));
        }
        e.is("seeds above 0 and below it", true, above && below);
        // Whoever is here draws nothing; two who come back draw twice.
        DryRiver x = Check.of("person 40 purse 0;person 40 purse 0;person 40 purse 0;journey 1");
        x.send(0);
        x.send(2);
        x.days(60);
        int once = (int) (1103515245L + 12345);
        e.is("two draws", (int) (1103515245L * once + 12345), x.seed(1));
    }

    private static void ahead() {
        e.says("AHEAD by N DAYS (0 to 100): as so many DAYS on which whoever comes back tells nothing (no DRAWS; BELIEF as it "
                + "was).");
        DryRiver x = Check.of("person 10 purse 0;person 50 purse 0;trusts 1 90;journey 1;truth 100;chest 20;work 20 need 60 gain 3",
                "raise 1 if day>99 and who>0");
        x.send(0);
        String before = Probe.all(x);
        e.is("by 0", 50, x.then(0, false));
        e.is("away till day 1", 50, x.then(1, false));
        e.is("back behind day 1, as it was", 60, x.then(2, false));
        e.is("belief as it was", 10, x.ahead(0, 2));
        e.is("the other one heard nothing", 50, x.ahead(1, 2));
        // Pulled by 9 of the 40 that they differ by, till less than 5 are left.
        e.is("the other one is pulled", 41, x.ahead(1, 3));
        e.is("the work of day 2 is not built", 20, x.then(3, true));
        e.is("by 100 it is day 100: not above 99 yet", 14, x.ahead(1, 100));
        e.is("nothing stays", before, Probe.all(x));
        Check.law(x, "raise 1 if day>98 and who>0");
        e.is("on day 99 it was", 15, x.ahead(1, 100));
        for (int n : new int[] {-1, 101, Edges.LEAST, Edges.GREATEST}) {
            e.refuses("ahead by " + n, Edges.ARGUMENT, () -> x.ahead(0, n));
            e.refuses("then by " + n, Edges.ARGUMENT, () -> x.then(n, true));
        }
    }

    private static void told() {
        e.says("a PERSON HERE is told (BELIEF 20 more, 99 at most)");
        int[][] due = {{0, 20}, {1, 21}, {78, 98}, {79, 99}, {80, 99}, {99, 99}};
        for (int[] row : due) {
            DryRiver x = Edges.people(row[0]);
            e.is("told at " + row[0], row[1], x.tell(0));
            e.is("believes then", row[1], x.person(0, 0));
        }
        DryRiver dry = Check.of("person 50 purse 0 dry");
        e.is("a dry one is told likewise", 70, dry.tell(0));
    }

    private static void sentAway() {
        e.says("a PERSON HERE is sent away (till DAY and JOURNEY)");
        DryRiver x = Check.of(Edges.persons(1, 2, 3, 4, 5, 6, 7, 8) + ";day 999;journey 30");
        for (int person = 0; person < 8; person++) {
            e.is("sent", 1029, x.send(person));
        }
        e.is("nobody is here", 0, x.count(7));
        e.is("nothing is believed", 0, x.count(6));
        for (int person = 0; person < 8; person++) {
            int one = person;
            e.refuses("sent again", Edges.STATE, () -> x.send(one));
            e.refuses("told", Edges.STATE, () -> x.tell(one));
        }
        Check.town(x, "journey 1");
        e.is("a journey told later leaves those who are away", 1029, x.person(0, 4));
    }

    private static void boughtAndSold() {
        e.says("one buys SHARES at PRICE from the town (PURSE; the CHEST has it, 9999 at most), or sells them to it");
        DryRiver x = Check.of("person 99 purse 999;shares 0 90;chest 999;" + Edges.repeated("work 1 need 0 gain 20", 6, ";"),
                "raise 0");
        Edges.pass(x, 76);
        e.is("the chest", 9993, x.count(5));
        e.is("one share at 197", 802, x.buy(0, 1));
        e.is("the chest is full", 9999, x.count(5));
        e.is("four", 14, x.buy(0, 4));
        e.is("the chest stays full", 9999, x.count(5));
        e.refuses("a purse of 14", Edges.STATE, () -> x.buy(0, 1));
        e.is("fifty are sold", 14 + 50 * 197, x.sell(0, 50));
        e.is("the chest paid", 9999 - 50 * 197, x.count(5));
        e.refuses("the chest has 149", Edges.STATE, () -> x.sell(0, 1));
        x.days(1);
        e.is("one more than the purse can hold", 9999, x.sell(0, 1));
        e.is("the chest paid it all", 149 + 120 - 197, x.count(5));
        DryRiver away = Check.of("person 99 purse 5;shares 0 9;chest 5");
        away.send(0);
        e.is("one who is away sells at 1", 10, away.sell(0, 5));
        e.is("and buys at 1", 0, away.buy(0, 10));
        e.is("its shares", 14, away.person(0, 2));
    }

    private static void log() {
        e.says("THE LOG: the latest 60 of these: DAY, the WORK that stands (0), or that falls (1), the PERSON that tells there "
                + "is water (2), or none (3); BELIEVED then (behind the tale, that one HERE again).");
        DryRiver x = Check.of("person 50 purse 0;person 20 purse 0;trusts 1 50;journey 1;truth 100;work 1 need 60 gain 0;"
                + "work 1 need 70 gain 0", "raise 0");
        x.days(1);
        x.send(0);
        x.days(2);
        // The second one was pulled from 20 to 23 on day 0.
        int[][] due = {{2, 0, 2, 99 + 28}, {1, 1, 1, 23}, {1, 0, 1, 23}, {0, 1, 0, 73}, {0, 0, 0, 73}};
        for (int ago = 0; ago < due.length; ago++) {
            for (int what = 0; what < 4; what++) {
                e.is("row " + ago + " what " + what, due[ago][what], x.log(ago, what));
            }
        }
        e.is("five rows", 5, x.count(11));
        e.is("no sixth", NONE, x.log(5, 0));
        Check.town(x, "truth 0");
        x.send(0);
        x.days(2);
        e.is("there is none", 3, x.log(0, 2));
        sixtyRows();
    }

    private static void sixtyRows() {
        // Six works that stand on a day and fall on the next, planned anew each time: twelve rows in two days.
        DryRiver x = Check.of("person 50 purse 0;chest 999;" + Edges.repeated("work 1 need 50 gain 0", 6, ";"));
        Check.law(x, "raise 30 if belief<50;lower 30 if belief>49");
        Check.town(x, "person 0 purse 0");
        Check.law(x, "raise 30 if who<1 and belief<50;lower 30 if who<1 and belief>49");
        x.days(1);
        e.is("20 are believed", 20, x.count(6));
        for (int time = 0; time < 5; time++) {
            e.is("none falls", 0, x.days(1));
            e.is("six fall", 6, x.days(1));
            for (int work = 0; work < 6; work++) {
                x.plan(work);
            }
        }
        e.is("sixty rows", 60, x.count(11));
        e.is("the sixtieth is the first work that stood", 0, x.log(59, 1));
        e.is("its day", 1, x.log(59, 0));
        e.is("no sixty-first", NONE, x.log(60, 0));
        e.is("ten rows of each work", 10, x.led(5, false));
        e.is("none falls", 0, x.days(1));
        e.is("sixty rows still", 60, x.count(11));
        e.is("six rows went", 1, x.log(59, 2));
        e.is("the sixtieth is of the day behind it", 2, x.log(59, 0));
        e.is("the latest", 5, x.log(0, 1));
        e.is("of the latest day", 11, x.log(0, 0));
        e.is("ten rows of each work still", 10, x.led(0, false));
        rowsComeAgain(x);
    }

    /** Rows that later ones pushed out are there again behind an undo, and behind going back. */
    private static void rowsComeAgain(DryRiver x) {
        Check.town(x, "");
        String full = Probe.all(x);
        x.days(1);
        e.is("six rows more went", 3, x.log(59, 0));
        x.undo();
        e.is("all sixty again", full, Probe.all(x));
        x.image();
        for (int time = 0; time < 5; time++) {
            x.days(1);
            for (int work = 0; work < 6; work++) {
                x.plan(work);
            }
            x.days(1);
        }
        e.is("none of the sixty is left", 12, x.log(59, 0));
        x.back();
        e.is("all sixty again, as in the image", full, Probe.all(x));
        DryRiver y = Check.of("work 1 need 0 gain 0;work 2 need 0 gain 0");
        y.days(1);
        y.image();
        String two = Probe.all(y).replace(",1, seed", ",0, seed");
        y.undo();
        Check.town(y, "person 5 purse 0;journey 1;chest 0");
        y.send(0);
        y.days(9);
        y.send(0);
        y.days(9);
        e.is("two other rows", 0, y.log(0, 1) + y.log(1, 1));
        y.back();
        e.is("the two of the image", two, Probe.all(y));
    }
}
