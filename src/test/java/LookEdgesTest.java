/** The edges of all that is looked for in a town: the third part of the document, sentence by sentence. */
final class LookEdgesTest {
    private static final int NONE = Edges.NONE;
    private static Edges e;

    public static void main(String[] args) throws Exception {
        e = new Edges("LookEdgesTest");
        sways();
        guru();
        must();
        reaches();
        doubts();
        ruin();
        dearest();
        falls();
        chosen();
        river();
        more();
        liars();
        ask();
        word();
        steps();
        circles();
        hermits();
        rests();
        worthAndRichest();
        shareAndFirmest();
        last();
        home();
        trial();
        span();
        led();
        setsOfNone();
        manyCalls();
        e.close();
    }

    private static void setsOfNone() {
        e.says("Sets are bits; of none they count for nothing.");
        DryRiver alone = Check.of("person 50 purse 0;work 1 need 60 gain 1;chest 0", "raise 0");
        for (DryRiver x : new DryRiver[] {new DryRiver(), alone}) {
            e.is("doubts", 0, x.doubts());
            e.is("falls", 0, x.falls(9));
            e.is("chosen", 0, x.chosen(false));
            e.is("the gain of none", 0, x.chosen(true));
            e.is("sure", 0, x.liars(true));
            e.is("works that stand", 0, x.count(8));
            e.is("works that are fallen", 0, x.count(9));
        }
        e.is("here", 0, new DryRiver().count(7));
        e.is("hermits", 0, new DryRiver().hermits());
        e.is("the set of none is one that fits", 1, new DryRiver().liars(false));
        e.is("word", 0, alone.word(0));
        e.is("none must be told", 0, alone.must(50, 30));
        alone.send(0);
        e.is("here, when all are away", 0, alone.count(7));
        e.is("doubts, when all are away", 0, alone.doubts());
    }

    private static void manyCalls() {
        e.says("An object is used for at most 512 calls after it has been made; what later calls answer is free.");
        DryRiver x = new DryRiver();
        x.feed(0x70657273, 0x6f6e2038, 0x30207075, 0x72736520, 0x31303020);
        x.town();
        for (int call = 3; call <= 508; call += 2) {
            x.dry(0, call % 4 == 1);
            x.days(60);
        }
        e.is("the 509th", 1, x.feed(0, 0, 0, 0, 0) / 20);
        e.is("the 510th", 9999, x.count(4));
        e.is("the 511th", true, x.undo());
        e.is("the 512th", 11, x.count(12));
    }

    private static DryRiver tied(String... trusts) {
        StringBuilder people = new StringBuilder();
        StringBuilder ties = new StringBuilder();
        for (int person = 0; person < trusts.length; person++) {
            people.append(person == 0 ? "" : ";").append("person 50 purse 0");
            ties.append(person == 0 ? "" : ";").append("trusts ").append(person).append(' ').append(trusts[person]);
        }
        DryRiver x = Check.of(people.toString());
        Check.town(x, ties.toString());
        return x;
    }

    private static void sways() {
        e.says("SWAYS of a PERSON by N DAYS (0 to 30): by how much more is BELIEVED AHEAD, if its BELIEF was 10 more now "
                + "(99 at most).");
        int[][] due = {{0, 10}, {88, 10}, {89, 10}, {90, 9}, {98, 1}, {99, 0}};
        for (int[] row : due) {
            e.is("at " + row[0], row[1], Edges.people(row[0]).sways(0, 0));
            e.is("at " + row[0] + " by 30", row[1], Edges.people(row[0]).sways(0, 30));
        }
        DryRiver x = Check.of("person 50 purse 0;person 20 purse 0;journey 29", "lower 30 if belief>59 and who<1 and day<1");
        e.is("below 0", -20, x.sways(0, 1));
        x.send(1);
        e.is("of one who is away", 0, x.sways(1, 29));
        e.is("of one who comes back on day 29", 10, x.sways(1, 30));
        for (int n : new int[] {-1, 31, 100, Edges.LEAST, Edges.GREATEST}) {
            e.refuses("by " + n, Edges.ARGUMENT, () -> x.sways(0, n));
            e.refuses("of nobody by " + n, Edges.INDEX, () -> x.sways(2, n));
        }
        e.is("nothing stays", 50, x.person(0, 0));
    }

    private static void guru() {
        e.says("GURU by N: the PERSON HERE who SWAYS the most (of several the least; none).");
        DryRiver x = Edges.people(99, 90, 89, 50, 89, 99, 95, 99);
        e.is("of several the least", 2, x.guru(0));
        e.is("by 30", 2, x.guru(30));
        x.send(2);
        e.is("of those here", 3, x.guru(0));
        x.send(3);
        e.is("of those here still", 4, x.guru(0));
        e.is("all sway nothing: the least", 0, Edges.people(99, 99).guru(0));
        DryRiver below = Check.of("person 55 purse 0;person 50 purse 0;person 56 purse 0", "lower 30 if belief>59");
        e.is("the least below 0", 0, below.guru(1));
        DryRiver last = Edges.people(99, 99, 99, 99, 99, 99, 99, 98);
        e.is("the last one", 7, last.guru(9));
        DryRiver away = Edges.people(50);
        away.send(0);
        e.is("none", NONE, away.guru(0));
        e.is("none, though one comes back", NONE, away.guru(30));
        e.is("none without anybody", NONE, new DryRiver().guru(0));
        for (int n : new int[] {-1, 31, Edges.LEAST, Edges.GREATEST}) {
            e.refuses("by " + n, Edges.ARGUMENT, () -> x.guru(n));
        }
    }

    private static void must() {
        e.says("MUST to X (1 to 792) by N DAYS (0 to 30): the fewest PEOPLE HERE to be told now, so that BELIEVED is X at "
                + "least AHEAD by N: of several sets the least as bits; none.");
        DryRiver full = Edges.people(99, 99, 99, 99, 99, 99, 99, 99);
        e.is("792 are believed", 0, full.must(792, 0));
        e.is("792 are believed by 30", 0, full.must(792, 30));
        e.is("all must be told", 255, Edges.people(79, 79, 79, 79, 79, 79, 79, 79).must(792, 30));
        e.is("all are not enough", NONE, Edges.people(79, 79, 79, 79, 79, 79, 79, 78).must(792, 0));
        e.is("but for one less", 255, Edges.people(79, 79, 79, 79, 79, 79, 79, 78).must(791, 0));
        e.is("one of eight", 128, Edges.people(99, 99, 99, 99, 99, 99, 99, 79).must(792, 0));
        e.is("the least", 0, Edges.people(1).must(1, 0));
        e.is("one for 1", 1, Edges.people(0).must(1, 0));
        e.is("one for 20", 1, Edges.people(0).must(20, 0));
        e.is("none for 21", NONE, Edges.people(0).must(21, 0));
        // One of a higher number is fewer than two of lower ones.
        e.is("the fewest", 4, Edges.people(90, 90, 50).must(240, 0));
        e.is("of several the least", 3, Edges.people(50, 50, 50, 50).must(240, 0));
        e.is("two that are not beside one another", 5, Edges.people(50, 99, 50).must(239, 0));
        DryRiver away = Edges.people(50, 50, 50);
        away.send(0);
        e.is("those here alone", 2, away.must(120, 0));
        e.is("both here", 6, away.must(140, 0));
        e.is("not the one who is away", NONE, away.must(141, 0));
        e.is("one who comes back is believed as it was", 6, away.must(190, 7));
        e.is("and is not told", NONE, away.must(191, 7));
        away.send(1);
        away.send(2);
        e.is("nobody here, but they come back", 0, away.must(150, 7));
        e.is("nobody here to be told", NONE, away.must(151, 7));
        for (int bad : new int[] {0, -1, 793, Edges.LEAST, Edges.GREATEST}) {
            e.refuses("x " + bad, Edges.ARGUMENT, () -> full.must(bad, 0));
        }
        for (int bad : new int[] {-1, 31, Edges.LEAST, Edges.GREATEST}) {
            e.refuses("n " + bad, Edges.ARGUMENT, () -> full.must(1, bad));
        }
    }

    private static void reaches() {
        e.says("REACHES X: the first N (0 to 100) AHEAD by which BELIEVED is X at least; none.");
        e.is("792 now", 0, Edges.people(99, 99, 99, 99, 99, 99, 99, 99).reaches(792));
        e.is("never 792", NONE, Edges.people(99, 99, 99, 99, 99, 99, 99, 98).reaches(792));
        e.is("1 now", 0, Edges.people(1).reaches(1));
        e.is("never 1", NONE, Edges.people(0).reaches(1));
        DryRiver x = Check.of("person 0 purse 0", "raise 1 if day>98");
        e.is("by 100", 100, x.reaches(1));
        e.is("by 101 is too late", NONE, x.reaches(2));
        // The first of several, though it is less again behind it.
        DryRiver up = Check.of("person 50 purse 0", "raise 10 if day<2;lower 30 if day>1");
        e.is("the first", 1, up.reaches(60));
        e.is("the second", 2, up.reaches(61));
        e.is("none", NONE, up.reaches(71));
        for (int truth = 0; truth <= 100; truth += 100) {
            DryRiver away = Check.of("person 60 purse 0;journey 30;truth " + truth, "raise 0");
            away.send(0);
            e.is("when it is back", 31, away.reaches(60));
            e.is("it tells nothing ahead", NONE, away.reaches(61));
        }
        for (int bad : new int[] {0, -1, 793, Edges.LEAST, Edges.GREATEST}) {
            e.refuses("x " + bad, Edges.ARGUMENT, () -> x.reaches(bad));
        }
    }

    private static void doubts() {
        e.says("DOUBTS: PEOPLE HERE whose BELIEF is below a third of 99 (33), as bits.");
        DryRiver x = Edges.people(32, 33, 34, 0, 99, 31, 33, 32);
        e.is("below 33", 1 | 8 | 32 | 128, x.doubts());
        x.send(0);
        e.is("of those here", 8 | 32 | 128, x.doubts());
        e.is("all", 255, Edges.people(0, 0, 0, 0, 0, 0, 0, 0).doubts());
        e.is("none", 0, Edges.people(33, 99).doubts());
        e.is("nobody", 0, new DryRiver().doubts());
    }

    private static void ruin() {
        e.says("RUIN: the first N (0 to 100) AHEAD by which two of each three, at least, HERE have such a BELIEF; none (also "
                + "without anybody HERE).");
        // The least number of doubters that is two thirds of one, of two, .. of eight.
        int[] least = {1, 2, 2, 3, 4, 4, 5, 6};
        for (int people = 1; people <= 8; people++) {
            for (int doubting = 0; doubting <= people; doubting++) {
                int[] beliefs = new int[people];
                for (int person = 0; person < people; person++) {
                    beliefs[person] = person < doubting ? 32 : 33;
                }
                e.is(doubting + " of " + people, doubting >= least[people - 1] ? 0 : NONE, Edges.people(beliefs).ruin());
            }
        }
        DryRiver x = Check.of("person 33 purse 0", "lower 1 if day>98");
        e.is("by 100", 100, x.ruin());
        Check.law(x, "lower 1 if day>99");
        e.is("by 101 is too late", NONE, x.ruin());
        x.send(0);
        e.is("nobody here", NONE, x.ruin());
        e.is("nobody", NONE, new DryRiver().ruin());
        DryRiver away = Check.of("person 0 purse 0;person 0 purse 0;person 99 purse 0;journey 5", "raise 0");
        e.is("two of three", 0, away.ruin());
        for (int truth = 0; truth <= 100; truth += 100) {
            DryRiver back = Check.of("person 32 purse 0;person 33 purse 0;person 33 purse 0;trusts 1 900;trusts 2 900;journey 1;truth "
                    + truth, "raise 0");
            back.send(0);
            e.is("one of three who tells nothing ahead", NONE, back.ruin());
            back.tell(1);
            back.send(1);
            back.send(2);
            e.is("nobody here, then one of three", NONE, back.ruin());
        }
        away.send(0);
        e.is("one of two, till one comes back", 6, away.ruin());
        away.send(2);
        e.is("one of one", 0, away.ruin());
    }

    private static void dearest() {
        e.says("DEAREST by N DAYS (0 to 100): of the DAYS from now to N AHEAD the one on which PRICE is the greatest (of several "
                + "the first): in how many DAYS; how much.");
        DryRiver x = Check.of("person 50 purse 0", "raise 10 if day>98");
        e.is("by 99", 0, x.dearest(99, false));
        e.is("how much by 99", 51, x.dearest(99, true));
        e.is("by 100", 100, x.dearest(100, false));
        e.is("how much by 100", 73, x.dearest(100, true));
        e.is("by 0", 0, x.dearest(0, false));
        Check.law(x, "raise 10 if day<1;lower 10 if day>2;raise 10 if day>4");
        // 50, 60, 60, 60, 50, 40, 40, ..
        e.is("of several the first", 1, x.dearest(100, false));
        Check.law(x, "lower 1");
        e.is("now", 0, x.dearest(100, false));
        e.is("how much now", 51, x.dearest(100, true));
        e.is("without anybody, when", 0, new DryRiver().dearest(100, false));
        e.is("without anybody, how much", 1, new DryRiver().dearest(100, true));
        for (int truth = 0; truth <= 100; truth += 100) {
            DryRiver back = Check.of("person 60 purse 0;person 50 purse 0;journey 1;truth " + truth, "raise 0");
            back.send(0);
            e.is("when one is back, who tells nothing ahead", 2, back.dearest(100, false));
            e.is("how much, when one is back", 61, back.dearest(100, true));
        }
        // 7 and 0 cost the same: a belief that is more is not yet a price that is.
        DryRiver low = Check.of("person 0 purse 0", "raise 1 if day<7");
        e.is("the same price", 0, low.dearest(100, false));
        Check.law(low, "raise 1 if day<8");
        e.is("a price that is more", 8, low.dearest(100, false));
        for (int n : new int[] {-1, 101, Edges.LEAST, Edges.GREATEST}) {
            e.refuses("by " + n, Edges.ARGUMENT, () -> x.dearest(n, false));
            e.refuses("how much by " + n, Edges.ARGUMENT, () -> x.dearest(n, true));
        }
    }

    private static void falls() {
        e.says("FALLS by N DAYS (0 to 100) AHEAD: WORKS that are fallen then and are not now, as bits.");
        String six = Edges.repeated("work 1 need 50 gain 0", 6, ";");
        DryRiver x = Check.of("person 50 purse 0;" + six, "lower 1 if day>98");
        e.is("by 99", 0, x.falls(99));
        e.is("by 100 all six", 63, x.falls(100));
        e.is("by 0", 0, x.falls(0));
        DryRiver y = Check.of("person 50 purse 0;work 1 need 50 gain 0;work 1 need 49 gain 0", "lower 1 if day>0");
        y.days(2);
        e.is("the first is fallen", 1, y.count(9));
        e.is("what is not fallen now", 2, y.falls(1));
        y.days(1);
        e.is("none more", 0, y.falls(100));
        y.plan(0);
        Check.law(y, "raise 5 if day<4;lower 5 if day>3");
        e.is("planned anew, it stands and falls", 1, y.falls(2));
        for (int n : new int[] {-1, 101, Edges.LEAST, Edges.GREATEST}) {
            e.refuses("by " + n, Edges.ARGUMENT, () -> x.falls(n));
        }
        e.is("without a work", 0, new DryRiver().falls(100));
        for (int truth = 0; truth <= 100; truth += 100) {
            e.is("one who comes back tells nothing ahead", 0, stands(truth).falls(100));
        }
    }

    /** A work that stands by a tale of nobody: it falls if there is none, another one stands and falls if there is water. */
    private static DryRiver stands(int truth) {
        DryRiver x = Check.of("person 50 purse 0;person 50 purse 0;trusts 1 90;journey 1;work 1 need 50 gain 0;"
                + "work 1 need 101 gain 0;truth " + truth, "lower 9 if belief>50");
        x.send(0);
        x.days(1);
        return x;
    }

    private static void chosen() {
        e.says("CHOSEN: of sets of planned WORKS whose COSTS together are the CHEST at most and whose NEEDS are BELIEVED at most "
                + "each, the one of the most GAIN together: of several the least as bits; how much.");
        e.is("no work", 0, new DryRiver().chosen(false));
        e.is("how much of no work", 0, new DryRiver().chosen(true));
        DryRiver all = Check.of("person 50 purse 0;chest 594;" + Edges.repeated("work 99 need 50 gain 20", 6, ";"));
        e.is("all for 594", 63, all.chosen(false));
        e.is("how much", 120, all.chosen(true));
        Check.town(all, "chest 593");
        e.is("of several sets of five the least", 31, all.chosen(false));
        e.is("how much of five", 100, all.chosen(true));
        Check.town(all, "chest 98");
        e.is("none for 98", 0, all.chosen(false));
        e.is("how much of none", 0, all.chosen(true));
        DryRiver need = Check.of("person 50 purse 0;work 1 need 51 gain 20;work 1 need 50 gain 1");
        e.is("just believed", 2, need.chosen(false));
        DryRiver gain = Check.of("person 50 purse 0;work 1 need 0 gain 0;work 1 need 0 gain 1;work 1 need 0 gain 0");
        e.is("those without gain are left", 2, gain.chosen(false));
        DryRiver state = Check.of("person 50 purse 0;work 1 need 50 gain 5;work 1 need 0 gain 3;work 40 need 0 gain 2", "lower 1 if day>0");
        state.days(1);
        Check.town(state, "chest 99");
        e.is("those that stand are not planned", 4, state.chosen(false));
        state.days(2);
        e.is("the first is fallen", 1, state.count(9));
        e.is("nor is one that is fallen", 0, state.chosen(false));
        state.plan(0);
        e.is("planned anew, not believed", 0, state.chosen(false));
        state.tell(0);
        e.is("planned anew", 1, state.chosen(false));
        e.is("its gain", 5, state.chosen(true));
    }

    private static int river(int r, int... tales) {
        DryRiver x = new DryRiver();
        Check.put(x, tales);
        return x.river(r);
    }

    private static int more(int r, int... tales) {
        DryRiver x = new DryRiver();
        Check.put(x, tales);
        return x.more(r);
    }

    private static int[] tales(int tale, int times) {
        int[] all = new int[times];
        java.util.Arrays.fill(all, tale);
        return all;
    }

    private static void river() {
        e.says("RIVER: told are a number R (0 to 100) and tales that came back (1: there is water, 0: there is none): in how "
                + "many ten thousandths (rounded down) there is a river, if it was R in 100 ahead of these, and each tale is "
                + "right in 9 of 10.");
        for (int r = 0; r <= 100; r++) {
            for (int water = 0; water <= 12; water++) {
                int[] tales = java.util.Arrays.copyOf(tales(1, water), 12);
                java.math.BigInteger is = java.math.BigInteger.valueOf(9).pow(water).multiply(java.math.BigInteger.valueOf(r));
                java.math.BigInteger not = java.math.BigInteger.valueOf(9).pow(12 - water)
                        .multiply(java.math.BigInteger.valueOf(100 - r));
                long due = is.multiply(java.math.BigInteger.valueOf(10000)).divide(is.add(not)).longValue();
                e.is("of " + r + " by " + water + " of 12", due, river(r, tales));
            }
            e.is("of " + r + " without a tale", 100 * r, river(r));
        }
        e.is("one tale at 1: 9 of 108", 833, river(1, 1));
        e.is("in any order", river(7, 1, 1, 0, 0, 1), river(7, 0, 1, 1, 1, 0));
        DryRiver cut = new DryRiver();
        for (int tales = 0; tales <= 12; tales++) {
            cut.feed(0x01010101, 0x01010101, 0x01010101, -1, -1);
            cut.end(tales);
            e.is("of 0 by " + tales + " of more bytes", 0, cut.river(0));
            cut.feed(0x01010101, 0x01010101, 0x01010101, -1, -1);
            cut.end(tales);
            int due = Math.max(0, 5 - tales);
            e.is("more than " + tales + " of more bytes", due, cut.more(1));
        }
        for (int bad : new int[] {-1, 101, Edges.LEAST, Edges.GREATEST}) {
            e.refuses("r " + bad, Edges.ARGUMENT, () -> river(bad));
            e.refuses("r " + bad + " with a tale", Edges.ARGUMENT, () -> river(bad, 1));
        }
        e.says("RIVER (a byte for each tale, 1 or 0; at most 12). IllegalArgumentException: the TAPE is not that (none may be "
                + "told), or R is none.");
        e.is("twelve", 9999, river(50, tales(1, 12)));
        e.refuses("thirteen", Edges.ARGUMENT, () -> river(50, tales(1, 13)));
        e.refuses("four hundred", Edges.ARGUMENT, () -> river(50, tales(0, 400)));
        for (int bad : new int[] {2, 48, 49, 127, 128, 254, 255}) {
            e.refuses("a tale " + bad, Edges.ARGUMENT, () -> river(50, bad));
            e.refuses("a last tale " + bad, Edges.ARGUMENT, () -> river(50, 1, 0, 1, 0, 1, 0, 1, 0, 1, 0, 1, bad));
        }
    }

    private static void more() {
        e.says("MORE: how many tales more, all that there is water, are needed at least (0 to 20), so that it is 9900 at least; "
                + "none.");
        e.is("99 is 9900", 0, more(99));
        e.is("98 is not", 1, more(98));
        // 55 by two tales is 81 * 55 of 81 * 55 + 45: 9900, not a bit more; 54 is less.
        e.is("just 9900", 2, more(55));
        e.is("not quite", 3, more(54));
        e.is("100", 0, more(100, tales(0, 12)));
        e.is("the most that are needed", 17, more(1, tales(0, 12)));
        e.is("0 by no tales", NONE, more(0));
        e.is("0 by all tales", NONE, more(0, tales(1, 12)));
        e.is("enough already", 0, more(1, tales(1, 5)));
        e.is("not quite enough", 1, more(1, tales(1, 4)));
        e.says("MORE (the TAPE likewise); NONE. IllegalArgumentException: the TAPE is not that, or R is none.");
        e.refuses("thirteen", Edges.ARGUMENT, () -> more(50, tales(1, 13)));
        e.refuses("a tale of 2", Edges.ARGUMENT, () -> more(50, 1, 2));
        for (int bad : new int[] {-1, 101, Edges.LEAST, Edges.GREATEST}) {
            e.refuses("r " + bad, Edges.ARGUMENT, () -> more(bad, 1));
        }
    }

    private static int liars(int people, boolean sure, int... said) {
        int[] beliefs = new int[people];
        DryRiver x = Check.of(Edges.persons(beliefs));
        Check.put(x, said);
        return x.liars(sure);
    }

    private static int ask(int people, int... said) {
        int[] beliefs = new int[people];
        DryRiver x = Check.of(Edges.persons(beliefs));
        Check.put(x, said);
        return x.ask();
    }

    private static int[] rows(int times) {
        int[] all = new int[3 * times];
        for (int i = 0; i < all.length; i += 3) {
            all[i + 1] = 1;
            all[i + 2] = 1;
        }
        return all;
    }

    private static void liars() {
        e.says("who is honest says what is so, who lies what is not: sets of the honest (of all PEOPLE) that fit: how many; "
                + "SURE: who is honest in all of these, as bits (0 without).");
        for (int people = 0; people <= 8; people++) {
            e.is("all sets of " + people, 1 << people, liars(people, false));
            e.is("nobody is sure of " + people, 0, liars(people, true));
        }
        e.is("one says another is honest", 2, liars(2, false, 0, 1, 1));
        e.is("one says another lies", 2, liars(2, false, 0, 1, 0));
        e.is("the same again", 2, liars(2, false, 0, 1, 1, 1, 0, 1));
        e.is("what cannot be", 0, liars(2, false, 0, 1, 1, 0, 1, 0));
        e.is("nobody is sure without a set", 0, liars(2, true, 0, 1, 1, 0, 1, 0));
        e.is("who says it counts", 2, liars(3, false, 0, 1, 1, 2, 1, 0));
        e.is("of whom it is said counts", 0, liars(3, false, 0, 1, 1, 2, 0, 0, 1, 2, 1));
        e.is("an odd round cannot be", 0, liars(3, false, 0, 1, 0, 1, 2, 0, 2, 0, 0));
        e.is("the last two of eight", 128, liars(8, false, 7, 6, 0));
        DryRiver again = Edges.people(1, 1, 1);
        for (int time = 0; time < 3; time++) {
            again.feed(0x000101ff, -1, -1, -1, -1);
            again.end(3);
            e.is("four each time, whatever was behind the end", 4, again.liars(false));
            e.is("eight of none each time", 8, again.liars(false));
            again.feed(0x000101ff, -1, -1, -1, -1);
            again.end(3);
            e.is("nobody is sure each time", 0, again.liars(true));
            again.feed(0x000101ff, -1, -1, -1, -1);
            again.end(3);
            e.is("the same two each time", 2, again.ask());
        }
        e.says("LIARS (of each three bytes: who, of whom, 1 or 0; at most 36 bytes)");
        e.is("36 bytes", 128, liars(8, false, rows(12)));
        e.refuses("39 bytes", Edges.ARGUMENT, () -> liars(8, false, rows(13)));
        for (int bytes : new int[] {1, 2, 4, 5, 34, 35, 37, 38, 40, 400}) {
            int[] said = java.util.Arrays.copyOf(rows(134), bytes);
            e.refuses(bytes + " bytes", Edges.ARGUMENT, () -> liars(8, false, said));
            e.refuses(bytes + " bytes are asked", Edges.ARGUMENT, () -> ask(8, said));
        }
        e.says("IllegalArgumentException: the TAPE is not that (there are no such PEOPLE, or both are one; none may be told).");
        int[][] wrong = {{8, 0, 1}, {0, 8, 1}, {255, 0, 1}, {0, 255, 1}, {128, 0, 1}, {0, 0, 1}, {7, 7, 0}, {0, 1, 2}, {0, 1, 255},
            {0, 1, 1, 0, 1, 2}, {0, 1, 1, 3, 3, 1}, {48, 49, 49}};
        for (int[] said : wrong) {
            e.refuses(java.util.Arrays.toString(said), Edges.ARGUMENT, () -> liars(8, true, said));
            e.refuses(java.util.Arrays.toString(said) + ", asked", Edges.ARGUMENT, () -> ask(8, said));
        }
        e.refuses("one beyond the last", Edges.ARGUMENT, () -> liars(3, false, 0, 3, 1));
        e.refuses("nobody", Edges.ARGUMENT, () -> liars(0, false, 0, 1, 1));
        e.refuses("one alone", Edges.ARGUMENT, () -> liars(1, false, 0, 0, 1));
    }

    private static void ask() {
        e.says("ASK: the two (10 times the one who is asked and the one of whom) by whose answer these are parted so that the "
                + "greater part is the least (of several the least; none with fewer than two sets, or PEOPLE).");
        e.is("nobody", NONE, ask(0));
        e.is("one alone", NONE, ask(1));
        e.is("two", 1, ask(2));
        e.is("eight", 1, ask(8));
        e.is("no set", NONE, ask(2, 0, 1, 1, 0, 1, 0));
        e.is("two sets that no answer parts: the least", 1, ask(2, 0, 1, 1));
        e.is("what is known parts nothing", 2, ask(3, 0, 1, 1));
        e.is("what is known parts nothing, by lies too", 2, ask(3, 1, 0, 0));
        e.is("the last of eight", 7, ask(8, 0, 1, 1, 1, 2, 1, 2, 3, 1, 3, 4, 1, 4, 5, 1, 5, 6, 1));
        e.is("all are known", 1, ask(8, 0, 1, 1, 1, 2, 1, 2, 3, 1, 3, 4, 1, 4, 5, 1, 5, 6, 1, 6, 7, 0));
        e.is("36 bytes", 2, ask(8, rows(12)));
        e.refuses("39 bytes", Edges.ARGUMENT, () -> ask(8, rows(13)));
        DryRiver x = Edges.people(1, 1, 1);
        x.send(0);
        x.send(1);
        Check.put(x, 0, 1, 1);
        e.is("those who are away, too", 2, x.ask());
    }

    private static void word() {
        e.says("WORD of a PERSON: all to whom it comes: those who TRUST it with 1 at least, those who TRUST these so, and on, as "
                + "bits (without itself).");
        e.is("trust of 1", 2, tied("00", "10").word(0));
        e.is("trust of 0", 0, tied("00", "00").word(0));
        e.is("trust of 0 in the other one", 0, tied("00", "00").word(1));
        e.is("trust of the first one", 1, tied("01", "00").word(1));
        e.is("trust the other way", 0, tied("01", "00").word(0));
        DryRiver ring = tied("00000001", "10000000", "01000000", "00100000", "00010000", "00001000", "00000100", "00000010");
        for (int person = 0; person < 8; person++) {
            e.is("round a ring without itself", 255 & ~(1 << person), ring.word(person));
        }
        ring.tie(4, 3, 0);
        e.is("cut", 2 | 4 | 8, ring.word(0));
        e.is("cut, from behind it", 255 & ~16, ring.word(4));
        for (int person = 0; person < 8; person++) {
            ring.send(person);
        }
        e.is("by those who are away", 2 | 4 | 8, ring.word(0));
        for (int bad : new int[] {8, -1, Edges.LEAST, Edges.GREATEST}) {
            e.refuses("of " + bad, Edges.INDEX, () -> ring.word(bad));
        }
        e.is("one alone", 0, tied("9").word(0));
    }

    private static void steps() {
        e.says("STEPS of a WORD to another one: the fewest times it is passed on (1: that one TRUSTS it); none.");
        DryRiver ring = tied("00000001", "10000000", "01000000", "00100000", "00010000", "00001000", "00000100", "00000010");
        for (int other = 1; other < 8; other++) {
            e.is("to " + other, other, ring.steps(0, other));
            e.is("from " + other, 8 - other, ring.steps(other, 0));
        }
        ring.tie(7, 0, 1);
        e.is("the fewest", 1, ring.steps(0, 7));
        ring.tie(0, 7, 0);
        e.is("none", NONE, ring.steps(7, 6));
        e.is("none of two", NONE, tied("01", "00").steps(0, 1));
        for (int bad : new int[] {8, -1, Edges.LEAST, Edges.GREATEST}) {
            e.refuses("of " + bad, Edges.INDEX, () -> ring.steps(bad, 0));
            e.refuses("to " + bad, Edges.INDEX, () -> ring.steps(0, bad));
            e.refuses("of and to " + bad, Edges.INDEX, () -> ring.steps(bad, bad));
        }
        e.refuses("both are one", Edges.ARGUMENT, () -> ring.steps(7, 7));
    }

    private static void circles() {
        e.says("CIRCLES: how many sets of PEOPLE, two at least, there are, of whom each one's WORD comes to each other one, as "
                + "great as can be.");
        e.is("nobody", 0, new DryRiver().circles());
        e.is("one alone", 0, tied("9").circles());
        e.is("two, one way", 0, tied("01", "00").circles());
        e.is("two", 1, tied("01", "10").circles());
        e.is("all eight", 1, tied("00000001", "10000000", "01000000", "00100000", "00010000", "00001000", "00000100",
                "00000010").circles());
        e.is("four twos", 4, tied("00000001", "00000010", "00000100", "00001000", "00010000", "00100000", "01000000",
                "10000000").circles());
        e.is("four twos, bound one way", 4, tied("01000000", "10100000", "00010000", "00101000", "00000100", "00001010",
                "00000001", "00000010").circles());
        e.is("bound round", 1, tied("01000000", "10100000", "00010000", "00101000", "00000100", "00001010", "00000001",
                "10000010").circles());
        e.is("two that share one are one", 1, tied("010", "101", "010").circles());
    }

    private static void hermits() {
        e.says("HERMITS: PEOPLE who TRUST nobody and whom nobody TRUSTS, as bits.");
        e.is("nobody", 0, new DryRiver().hermits());
        e.is("one alone, whatever the own figure", 1, tied("9").hermits());
        e.is("eight", 255, Check.of(Edges.persons(1, 1, 1, 1, 1, 1, 1, 1)).hermits());
        e.is("one who trusts the first alone", 4, tied("000", "100", "000").hermits());
        e.is("one tie of 1", 255 & ~129, tied("00000001", "00000000", "00000000", "00000000", "00000000", "00000000",
                "00000000", "00000000").hermits());
        DryRiver x = tied("01", "00");
        x.send(0);
        e.is("those who are away trust, too", 0, x.hermits());
    }

    private static void rests() {
        e.says("choices (2 times the teller's and the dry man's) from which neither would have more by the other one of its own: "
                + "as bits.");
        // The town's part: 5 (both), 20 (tells alone), -10 (mocks alone), 0; the teller has that less 4 if it tells, the dry
        // man what it is less, less the trust if it mocks.
        int[] part = {5, 20, -10, 0};
        for (int trust = 0; trust <= 9; trust++) {
            int due = 0;
            for (int choice = 0; choice < 4; choice++) {
                int byTeller = choice ^ 2;
                int byDry = choice ^ 1;
                boolean tellerRests = part[choice] - (choice < 2 ? 4 : 0) >= part[byTeller] - (byTeller < 2 ? 4 : 0);
                boolean dryRests = -part[choice] - (choice % 2 == 0 ? trust : 0) >= -part[byDry] - (byDry % 2 == 0 ? trust : 0);
                due |= tellerRests && dryRests ? 1 << choice : 0;
            }
            e.is("trust " + trust, due, tied("0" + trust, "00").rests(0, 1));
            e.is("trust " + trust + " is 1", 1, tied("0" + trust, (9 - trust) + "0").rests(0, 1));
            e.is("trust of the dry man " + trust, 1, tied("00", trust + "0").rests(0, 1));
        }
        DryRiver x = tied("00", "00");
        x.send(0);
        x.send(1);
        e.is("away", 1, x.rests(1, 0));
        e.refuses("both are one", Edges.ARGUMENT, () -> x.rests(0, 0));
        e.refuses("no teller", Edges.INDEX, () -> x.rests(2, 0));
        e.refuses("no dry man", Edges.INDEX, () -> x.rests(0, 2));
        e.refuses("neither, and both are one", Edges.INDEX, () -> x.rests(-1, -1));
    }

    private static void worthAndRichest() {
        e.says("WORTH of a PERSON: PURSE and SHARES times PRICE. RICHEST: the PERSON of the most WORTH (of several the least; "
                + "none).");
        DryRiver x = Check.of("person 99 purse 999;shares 0 99");
        e.is("99 at 197", 999 + 99 * 197, x.person(0, 7));
        x.send(0);
        e.is("99 at 1", 999 + 99, x.person(0, 7));
        e.is("the richest is away", 0, x.richest());
        e.is("none", NONE, new DryRiver().richest());
        e.is("of several the least", 2, Check.of("person 50 purse 1;person 50 purse 2;person 50 purse 54;person 50 purse 3;"
                + "shares 3 1;person 50 purse 54").richest());
        e.is("the last of eight", 7, Check.of(Edges.persons(1, 1, 1, 1, 1, 1, 1) + ";person 1 purse 1").richest());
        e.is("all have nothing", 0, Edges.people(5, 5, 5).richest());
    }

    private static void shareAndFirmest() {
        e.says("SHARE of a PERSON: BELIEF in hundredths of BELIEVED, rounded down (0 without, or away).");
        DryRiver x = Edges.people(33, 33, 34);
        e.is("33 of 100", 33, x.person(0, 8));
        e.is("34 of 100", 34, x.person(2, 8));
        e.is("a third", 33, Edges.people(50, 50, 50).person(1, 8));
        e.is("two thirds", 66, Edges.people(20, 10).person(0, 8));
        e.is("less than a hundredth", 0, Edges.people(99, 99, 1).person(2, 8));
        e.is("all", 100, Edges.people(99, 0).person(0, 8));
        e.is("nothing is believed", 0, Edges.people(0, 0).person(0, 8));
        x.send(0);
        e.is("away", 0, x.person(0, 8));
        e.is("33 of 67", 49, x.person(1, 8));
        e.says("FIRMEST: the PERSON HERE of the greatest BELIEF (of several the least; none).");
        DryRiver y = Edges.people(5, 99, 98, 99, 7, 99, 0, 99);
        int[] due = {1, 3, 5, 7, 2, 4, 0, 6};
        for (int person : due) {
            e.is("the firmest", person, y.firmest());
            y.send(person);
        }
        e.is("none here", NONE, y.firmest());
        e.is("nobody", NONE, new DryRiver().firmest());
    }

    private static void last() {
        e.says("LAST of a WORK: the first N (0 to 100) AHEAD by which it is fallen; none.");
        DryRiver x = Check.of("person 50 purse 0;work 1 need 50 gain 0;work 1 need 0 gain 0", "lower 1 if day>98");
        e.is("by 100", 100, x.last(0));
        e.is("never", NONE, x.last(1));
        Check.law(x, "lower 1 if day>99");
        e.is("by 101 is too late", NONE, x.last(0));
        Check.law(x, "lower 1 if day>0");
        e.is("by 2", 2, x.last(0));
        x.days(2);
        e.is("now", 0, x.last(0));
        for (int bad : new int[] {2, -1, Edges.LEAST, Edges.GREATEST}) {
            e.refuses("of " + bad, Edges.INDEX, () -> x.last(bad));
        }
        e.refuses("without a work", Edges.INDEX, () -> new DryRiver().last(0));
        for (int truth = 0; truth <= 100; truth += 100) {
            e.is("one who comes back tells nothing ahead", NONE, stands(truth).last(0));
            e.is("nor of what is planned", NONE, stands(truth).last(1));
        }
        DryRiver six = Check.of("person 50 purse 0;" + Edges.repeated("work 1 need 50 gain 0", 6, ";"), "lower 1 if day>0");
        e.is("the sixth", 2, six.last(5));
        e.refuses("a seventh", Edges.INDEX, () -> six.last(6));
    }

    private static void home() {
        e.says("BACK: the first DAY on which somebody comes back; none.");
        DryRiver x = Check.of(Edges.persons(1, 1, 1) + ";journey 30;day 999");
        e.is("all are here", NONE, x.home());
        x.send(0);
        e.is("one", 1029, x.home());
        Check.town(x, "journey 1");
        x.send(2);
        e.is("the first", 1000, x.home());
        Check.town(x, "day 0");
        e.is("whatever the day is", 1000, x.home());
        Check.town(x, "day 999");
        x.days(1);
        e.is("still away", 1000, x.home());
        x.days(1);
        e.is("the next one", 1029, x.home());
        Check.town(x, "day 5;journey 3;chest 999");
        x.send(1);
        e.is("whatever the chest has", 8, x.home());
        Check.town(x, "day 99");
        e.is("one whose day has gone by comes back on this one", 99, x.home());
        x.days(1);
        e.is("as it does", 99, x.log(0, 0));
        e.is("nobody", NONE, new DryRiver().home());
    }

    private static void trial() {
        e.says("TRIAL of N DAYS (0 to 60) from now (draws, too; nothing stays): BELIEVED then; CHEST then.");
        DryRiver x = Check.of("person 10 purse 0;person 50 purse 0;trusts 1 90;journey 1;truth 50;chest 9;work 9 need 100 gain 4",
                "raise 0");
        x.seed(seedWith(true));
        x.send(0);
        x.image();
        String before = Probe.all(x);
        int[] believed = new int[61];
        int[] chest = new int[61];
        for (int n = 0; n <= 60; n++) {
            believed[n] = x.trial(n, false);
            chest[n] = x.trial(n, true);
        }
        e.is("nothing stays", before, Probe.all(x));
        for (int n = 1; n <= 60; n++) {
            x.days(1);
            e.is("believed behind " + n, x.count(6), believed[n]);
            e.is("the chest behind " + n, x.count(5), chest[n]);
        }
        e.is("by 0", 50, believed[0]);
        e.is("the chest by 0", 9, chest[0]);
        e.is("the tale was told", 99, x.person(0, 0));
        for (int n : new int[] {-1, 61, Edges.LEAST, Edges.GREATEST}) {
            e.refuses("of " + n, Edges.ARGUMENT, () -> x.trial(n, false));
            e.refuses("the chest of " + n, Edges.ARGUMENT, () -> x.trial(n, true));
        }
        e.is("without anybody", 0, new DryRiver().trial(60, false));
        e.is("the chest without anybody", 20, new DryRiver().trial(60, true));
    }

    private static int seedWith(boolean water) {
        int seed = 100;
        while (((1103515245L * seed + 12345 >> 16 & 0x7fff) % 100 < 50) != water) {
            seed++;
        }
        return seed;
    }

    private static void span() {
        e.says("SPAN: the least and the most BELIEVED then from SEED 1, 2, .. 6.");
        // The first draws by 100 from seeds 1 to 6 are 38, 8, 47, 17, 55, 26; from 0 and 7 they are 0 and 65.
        int[] first = {38, 8, 47, 17, 55, 26};
        for (int truth = 0; truth <= 100; truth++) {
            DryRiver x = Check.of("person 40 purse 0;journey 1;truth " + truth, "raise 0");
            x.seed(seedWith(truth % 2 == 0));
            x.send(0);
            boolean water = false;
            boolean none = false;
            for (int draw : first) {
                water |= draw < truth;
                none |= draw >= truth;
            }
            e.is("the least by truth " + truth, none ? 0 : 99, x.span(2, false));
            e.is("the most by truth " + truth, water ? 99 : 0, x.span(2, true));
            e.is("the seed stays", seedWith(truth % 2 == 0), x.seed(1));
        }
        for (int people = 1; people <= 8; people++) {
            for (int truth = 0; truth <= 100; truth++) {
                spanOf(people, truth);
            }
        }
        DryRiver x = Check.of("person 40 purse 0", "raise 1 if day>58");
        e.is("the least of 0", 40, x.span(0, false));
        e.is("the most of 0", 40, x.span(0, true));
        e.is("of 59", 40, x.span(59, false));
        e.is("of 60", 41, x.span(60, true));
        for (int n : new int[] {-1, 61, Edges.LEAST, Edges.GREATEST}) {
            e.refuses("the least of " + n, Edges.ARGUMENT, () -> x.span(n, false));
            e.refuses("the most of " + n, Edges.ARGUMENT, () -> x.span(n, true));
        }
        e.is("without anybody", 0, new DryRiver().span(60, true));
    }

    /** All come back on one day: as many believe 99 as draws, one behind another, are below the truth. */
    private static void spanOf(int people, int truth) {
        DryRiver x = Check.of(Edges.persons(new int[people]) + ";journey 1;truth " + truth, "raise 0");
        for (int person = 0; person < people; person++) {
            x.send(person);
        }
        int least = 8;
        int most = 0;
        for (int first = 1; first <= 6; first++) {
            int seed = first;
            int told = 0;
            for (int person = 0; person < people; person++) {
                seed = (int) (1103515245L * seed + 12345);
                told += (seed >> 16 & 0x7fff) % 100 < truth ? 1 : 0;
            }
            least = Math.min(least, told);
            most = Math.max(most, told);
        }
        e.is("the least of " + people + " by truth " + truth, 99 * least, x.span(2, false));
        e.is("the most of " + people + " by truth " + truth, 99 * most, x.span(2, true));
    }

    private static void led() {
        e.says("LED: how many rows of THE LOG are of a WORK (that stands, or falls); the DAY of the latest (none).");
        DryRiver x = Check.of("person 50 purse 0;person 50 purse 0;work 1 need 100 gain 0;work 1 need 799 gain 0;journey 1;truth 100",
                "raise 0");
        e.is("no row", 0, x.led(0, false));
        e.is("no day", NONE, x.led(0, true));
        x.days(1);
        e.is("a row of day 0", 1, x.led(0, false));
        e.is("day 0", 0, x.led(0, true));
        x.send(1);
        x.days(1);
        e.is("it fell", 2, x.led(0, false));
        e.is("day 1", 1, x.led(0, true));
        x.days(1);
        e.is("the tale of person 1 is no row of work 1", 0, x.led(1, false));
        e.is("nor its day", NONE, x.led(1, true));
        e.is("three rows", 3, x.count(11));
        for (int bad : new int[] {2, -1, Edges.LEAST, Edges.GREATEST}) {
            e.refuses("of " + bad, Edges.INDEX, () -> x.led(bad, false));
            e.refuses("the day of " + bad, Edges.INDEX, () -> x.led(bad, true));
        }
        // Three rows and 57 tales are sixty; each tale more pushes a row out.
        for (int tale = 0; tale < 57; tale++) {
            x.send(0);
            x.days(2);
        }
        e.is("sixty rows", 2, x.led(0, false));
        x.send(0);
        x.days(2);
        e.is("the row of its standing is pushed out", 1, x.led(0, false));
        e.is("its fall stays", 1, x.led(0, true));
        x.send(0);
        x.days(2);
        e.is("its fall is pushed out", 0, x.led(0, false));
        e.is("no day of it any more", NONE, x.led(0, true));
    }
}
