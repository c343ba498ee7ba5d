/** The edges of the document's terms and of its two kinds of texts, sentence by sentence, in their order. */
final class TermEdgesTest {
    private static final int NONE = Edges.NONE;
    private static Edges e;

    public static void main(String[] args) throws Exception {
        e = new Edges("TermEdgesTest");
        people();
        beliefs();
        price();
        works();
        chestJourneyTruthDay();
        twelveTexts();
        fourteenLines();
        numbersOfLines();
        figures();
        numbersOfDigits();
        lawLines();
        lawWords();
        lawGrammar();
        turns();
        words();
        blanks();
        emptyTexts();
        sixDeep();
        firstWrongByte();
        tooMany();
        moreMustCome();
        nothingStays();
        e.close();
    }

    private static final String EIGHT = Edges.repeated("person 50 purse 7", 8, ";");
    private static final String SIX = Edges.repeated("work 9 need 8 gain 7", 6, ";");

    private static void people() {
        e.says("PEOPLE (at most 8, numbered from 0 on)");
        DryRiver x = Check.of(Edges.persons(10, 11, 12, 13, 14, 15, 16, 17));
        e.is("eight", 8, x.count(0));
        e.is("here as bits", 255, x.count(7));
        for (int person = 0; person < 8; person++) {
            e.is("person " + person, 10 + person, x.person(person, 0));
        }
        for (int person : new int[] {8, 9, -1, Edges.LEAST, Edges.GREATEST}) {
            e.refuses("person " + person, Edges.INDEX, () -> x.person(person, 0));
        }
        e.townText(x, "person 1 purse 1", 0);
        e.townText(x, "day 1;person 1 purse 1", 6);
        e.townText(x, "day 1", NONE);
        e.townFrom(Edges.persons(1, 2, 3, 4, 5, 6, 7), "person 1 purse 1", NONE);
        e.townFrom(Edges.persons(1, 2, 3, 4, 5, 6, 7), "person 1 purse 1;person 1 purse 1", 17);
    }

    private static void beliefs() {
        e.says("BELIEF 0 to 99, TRUST 0 to 9 in each other one (0 at first), DRY or not (not at first), PURSE 0 to 9999, "
                + "SHARES 0 to 99 (0 at first), HERE, or away till a DAY.");
        DryRiver x = Check.of("person 0 purse 0;person 99 purse 999 dry;person 5 purse 7");
        e.is("the least belief", 0, x.person(0, 0));
        e.is("the greatest belief", 99, x.person(1, 0));
        e.townText(x, "person 100 purse 0", 7);
        e.is("no trust at first", 0, x.trust(0, 1));
        e.is("nor in a dry one", 0, x.trust(2, 1));
        e.townText(x, "trusts 0 090;trusts 2 900", NONE);
        e.is("the greatest trust", 9, x.trust(0, 1));
        e.is("the least trust", 0, x.trust(0, 2));
        e.is("not dry", 0, x.person(0, 3));
        e.is("dry", 1, x.person(1, 3));
        e.is("the least purse", 0, x.person(0, 1));
        e.is("the greatest purse of a text", 999, x.person(1, 1));
        e.is("no shares at first", 0, x.person(1, 2));
        e.townText(x, "shares 0 99;shares 1 0", NONE);
        e.is("the most shares", 99, x.person(0, 2));
        e.is("here at first", NONE, x.person(0, 4));
        x.send(0);
        e.is("away till a day", 6, x.person(0, 4));
        // One who comes by a later text is new in all of this, whatever others have.
        e.townText(x, "person 1 purse 1", NONE);
        for (int other = 0; other < 3; other++) {
            e.is("nobody trusts the new one", 0, x.trust(other, 3));
            e.is("the new one trusts nobody", 0, x.trust(3, other));
        }
        e.is("the new one is not dry", 0, x.person(3, 3));
        e.is("the new one has no shares", 0, x.person(3, 2));
        e.is("the new one is here", NONE, x.person(3, 4));
    }

    private static void price() {
        e.says("BELIEVED: BELIEFS of all HERE together.");
        DryRiver x = Edges.people(99, 99, 99, 99, 99, 99, 99, 99);
        e.is("the most", 792, x.count(6));
        x.send(7);
        e.is("without one who is away", 693, x.count(6));
        e.is("nobody", 0, new DryRiver().count(6));
        e.says("PRICE: BELIEVED by how many are HERE, rounded down, multiplied by itself, by 50, rounded down, and 1 "
                + "(1 without anybody HERE).");
        e.is("the greatest", 197, x.price());
        for (int person = 0; person < 7; person++) {
            x.send(person);
        }
        e.is("without anybody here", 1, x.price());
        e.is("without anybody", 1, new DryRiver().price());
        int[][] due = {{0, 1}, {7, 1}, {8, 2}, {9, 2}, {10, 3}, {50, 51}, {98, 193}, {99, 197}};
        for (int[] row : due) {
            e.is("at " + row[0], row[1], Edges.people(row[0]).price());
        }
        e.is("15 by two is 7", 1, Edges.people(7, 8).price());
        e.is("16 by two is 8", 2, Edges.people(8, 8).price());
        e.is("791 by eight is 98", 193, Edges.people(99, 99, 99, 99, 99, 99, 99, 98).price());
    }

    private static void works() {
        e.says("WORKS (at most 6, numbered from 0 on): COST 1 to 99, NEED 0 to 799, GAIN 0 to 20, a STATE: 0 planned "
                + "(at first), 1 stands, 2 fallen.");
        DryRiver x = Check.of("work 1 need 0 gain 0;work 99 need 799 gain 20;work 3 need 3 gain 3;work 4 need 4 gain 4;"
                + "work 5 need 5 gain 5;work 6 need 6 gain 6");
        e.is("six", 6, x.count(1));
        e.is("the least cost", 1, x.work(0, 0));
        e.is("the least need", 0, x.work(0, 1));
        e.is("the least gain", 0, x.work(0, 2));
        e.is("the greatest cost", 99, x.work(1, 0));
        e.is("the greatest need", 799, x.work(1, 1));
        e.is("the greatest gain", 20, x.work(1, 2));
        e.is("the last one", 6, x.work(5, 0));
        for (int work = 0; work < 6; work++) {
            e.is("planned at first", 0, x.work(work, 3));
        }
        for (int work : new int[] {6, 7, -1, Edges.LEAST, Edges.GREATEST}) {
            e.refuses("work " + work, Edges.INDEX, () -> x.work(work, 0));
        }
        e.townText(x, "work 1 need 1 gain 1", 0);
        e.townText(x, "day 1; work 1 need 1 gain 1", 7);
        e.townFrom("", "work 0 need 1 gain 1", 5);
        e.townFrom("", "work 100 need 1 gain 1", 5);
        e.townFrom("", "work 1 need 800 gain 1", 12);
        e.townFrom("", "work 1 need 1 gain 21", 19);
        DryRiver y = Check.of("person 50 purse 0;work 1 need 50 gain 0", "lower 1 if day>0");
        y.days(1);
        e.is("stands", 1, y.work(0, 3));
        y.days(1);
        e.is("fallen", 2, y.work(0, 3));
    }

    private static void chestJourneyTruthDay() {
        e.says("CHEST 0 to 9999 (20 at first).");
        e.is("at first", 20, new DryRiver().count(5));
        e.is("the least", 0, Check.of("chest 0").count(5));
        e.says("JOURNEY 1 to 30 (6 at first): how many DAYS one is away.");
        e.is("at first", 6, Check.of("person 1 purse 1").send(0));
        e.is("the least", 1, Check.of("person 1 purse 1;journey 1").send(0));
        e.is("the greatest", 30, Check.of("person 1 purse 1;journey 30").send(0));
        e.townFrom("", "journey 0", 8);
        e.townFrom("", "journey 31", 8);
        e.says("TRUTH 0 to 100 (50 at first): how likely a traveller says there is water.");
        e.townFrom("", "truth 0", NONE);
        e.townFrom("", "truth 100", NONE);
        e.townFrom("", "truth 101", 6);
        // From seed 58 the first draw by 100 is 49, from seed 27 it is 50.
        e.is("49 is water at first", 99, firstTale("day 0", 58));
        e.is("50 is none at first", 0, firstTale("day 0", 27));
        e.says("DAY: 0 at first.");
        e.is("at first", 0, new DryRiver().count(4));
    }

    private static int firstTale(String text, int seed) {
        DryRiver x = Check.of("person 40 purse 0;journey 1;" + text, "raise 0");
        x.seed(seed);
        x.send(0);
        x.days(2);
        return x.person(0, 0);
    }

    private static void twelveTexts() {
        e.says("THE TOWN is told in texts (at most 12, one behind another)");
        DryRiver x = new DryRiver();
        for (int text = 1; text <= 12; text++) {
            e.is("text " + text, text, Check.town(x, "chest " + text));
        }
        e.is("the twelfth counts", 12, x.count(5));
        Check.put(x, Check.bytes("chest 13"));
        e.refuses("the thirteenth", Edges.UNSUPPORTED, x::town);
        e.is("nothing of it", 12, x.count(5));
        e.is("twelve texts", 12, x.count(2));
        Check.put(x);
        e.refuses("an empty thirteenth", Edges.UNSUPPORTED, x::town);
        e.is("a law is no text of the town", 1, Check.law(x, "raise 1"));
        DryRiver y = new DryRiver();
        for (int wrong = 0; wrong < 20; wrong++) {
            e.townText(y, "chest x", 6);
        }
        e.is("a wrong text is none of the twelve", 1, Check.town(y, ""));
        DryRiver z = new DryRiver();
        for (int text = 1; text <= 11; text++) {
            Check.town(z, "");
        }
        z.image();
        Check.town(z, "");
        z.back();
        e.is("a text that was gone back from is none of them", 12, Check.town(z, ""));
    }

    private static void fourteenLines() {
        e.says("LINE { ; LINE }, at most 14: person N purse N [ dry ] | trusts H F | work N need N gain N | chest N | "
                + "journey N | truth N | shares H N | day N.");
        DryRiver x = Check.of(EIGHT + ";" + SIX);
        e.is("fourteen lines: people", 8, x.count(0));
        e.is("fourteen lines: works", 6, x.count(1));
        e.townFrom("", Edges.repeated("day 1", 14, ";"), NONE);
        e.townFrom("", Edges.repeated("day 1", 15, ";"), 84);
        e.townFrom("", Edges.repeated("day 1", 15, " ; "), 112);
        e.townFrom("", "day 1", NONE);
        e.townFrom("", ";day 1", 0);
        e.townFrom("", "day 1;", 6);
        e.townFrom("", "day 1;;day 1", 6);
        e.townFrom("", "day 1,day 1", 5);
        e.townFrom("", "day 1:day 1", 5);
        e.townFrom("", "person 1 purse 1 dry", NONE);
        e.townFrom("", "person 1 dry purse 1", 9);
        e.townFrom("", "dry person 1 purse 1", 0);
        e.townFrom("", "purse 1", 0);
        e.townFrom("", "need 1", 0);
        e.townFrom("", "work 1 need 1 dry gain 1", 14);
        e.townFrom("", "work 1 need 1 gain 1 dry", 21);
        e.townFrom("", "work 1 gain 1 need 1", 7);
        e.townFrom("", "raise 1", 0);
    }

    private static void numbersOfLines() {
        e.says("chest, purse, day: 0 to 999; shares: 0 to 99.");
        e.is("chest 999", 999, Check.of("chest 999").count(5));
        e.is("chest 0", 0, Check.of("chest 0").count(5));
        e.is("day 999", 999, Check.of("day 999").count(4));
        e.is("day 0 behind another", 0, Check.of("day 7;day 0").count(4));
        e.is("purse 999", 999, Check.of("person 1 purse 999").person(0, 1));
        e.is("purse 0", 0, Check.of("person 1 purse 0").person(0, 1));
        e.is("shares 99", 99, Check.of("person 1 purse 0;shares 0 99").person(0, 2));
        e.is("shares 0 behind others", 0, Check.of("person 1 purse 0;shares 0 99;shares 0 0").person(0, 2));
        e.townFrom("", "chest 1000", 6);
        e.townFrom("", "day 1000", 4);
        e.townFrom("", "person 1 purse 1000", 15);
        e.townFrom("person 1 purse 1", "shares 0 100", 9);
        e.says("H: a PERSON that there is by then");
        e.townFrom("", "trusts 0 0", 7);
        e.townFrom("", "shares 0 0", 7);
        e.townFrom("", "person 1 purse 1;shares 0 5;trusts 0 5", NONE);
        e.townFrom("", "shares 0 5;person 1 purse 1", 7);
        e.townFrom("", "person 1 purse 1;shares 1 5", 24);
        e.townFrom("", "person 1 purse 1;trusts 1 5", 24);
        e.townFrom("person 1 purse 1", "person 1 purse 1;shares 1 5;trusts 1 55", NONE);
        e.townFrom(EIGHT, "shares 7 1;trusts 7 11111111", NONE);
        e.townFrom(EIGHT, "shares 8 1", 7);
        e.townFrom(EIGHT, "trusts 8 11111111", 7);
        e.townFrom(EIGHT, "trusts 999 11111111", 7);
    }

    private static void figures() {
        e.says("F: as many figures as there are PEOPLE by then, TRUST of that one in each by numbers, the own one not "
                + "looked at");
        DryRiver x = Check.of(EIGHT);
        e.townText(x, "trusts 7 98765432;trusts 0 12345678", NONE);
        for (int other = 0; other < 7; other++) {
            e.is("of the last one in " + other, 9 - other, x.trust(7, other));
            e.is("of the first one in " + (other + 1), 2 + other, x.trust(0, other + 1));
        }
        e.is("the own one is no tie", 7, ties(x));
        e.townText(x, "trusts 7 9876543", 9);
        e.townText(x, "trusts 7 987654321", 9);
        e.townText(x, "trusts 7 9876 5432", 9);
        e.townText(x, "trusts 7 98765 432", 9);
        e.townText(x, "trusts 7 9876543x", 9);
        e.townText(x, "trusts 7", 8);
        e.townText(x, "trusts 7 ", 9);
        e.townText(x, "trusts 7;", 8);
        DryRiver one = Check.of("person 50 purse 0");
        e.townText(one, "trusts 0 9", NONE);
        e.is("nobody to trust", 1, one.hermits());
        e.is("no pull by oneself", 0, one.person(0, 5));
        e.townText(one, "trusts 0 99", 9);
        // People of the same text count by then, those behind it do not.
        e.townText(one, "trusts 0 9;person 1 purse 1;trusts 0 93;person 1 purse 1;trusts 2 459", NONE);
        e.is("by then two", 3, one.trust(0, 1));
        e.is("by then three", 5, one.trust(2, 1));
        e.townText(one, "trusts 0 93;person 1 purse 1", 9);
        // A later line is in place of all of the one before.
        e.townText(one, "trusts 2 110;trusts 2 020", NONE);
        e.is("in place", 0, one.trust(2, 0));
        e.is("in place, too", 2, one.trust(2, 1));
    }

    private static int ties(DryRiver x) {
        Check.law(x, "raise 1 if ties>0;raise 1 if ties>1;raise 1 if ties>2;raise 1 if ties>3;raise 1 if ties>4;"
                + "raise 1 if ties>5;raise 1 if ties>6;raise 1 if ties>7");
        return x.person(0, 6);
    }

    private static void numbersOfDigits() {
        e.says("Numbers are of 1 to 3 digits.");
        String two = "person 1 purse 1;person 1 purse 1";
        e.townFrom(two, "person 007 purse 007", NONE);
        e.townFrom(two, "person 0007 purse 1", 7);
        e.townFrom(two, "person 7 purse 0007", 15);
        e.townFrom(two, "trusts 001 12", NONE);
        e.townFrom(two, "trusts 0001 12", 7);
        e.townFrom(two, "work 001 need 001 gain 001", NONE);
        e.townFrom(two, "work 0001 need 1 gain 1", 5);
        e.townFrom(two, "work 1 need 0001 gain 1", 12);
        e.townFrom(two, "work 1 need 1 gain 0001", 19);
        e.townFrom(two, "chest 000", NONE);
        e.townFrom(two, "chest 0000", 6);
        e.townFrom(two, "journey 030", NONE);
        e.townFrom(two, "journey 0030", 8);
        e.townFrom(two, "truth 010", NONE);
        e.townFrom(two, "truth 0010", 6);
        e.townFrom(two, "shares 001 009", NONE);
        e.townFrom(two, "shares 0001 9", 7);
        e.townFrom(two, "shares 1 0009", 9);
        e.townFrom(two, "day 009", NONE);
        e.townFrom(two, "day 0009", 4);
        e.townFrom(two, "day 99999999999999999999", 4);
        e.townFrom(two, "day 4294967296", 4);
        e.townFrom(two, "day -1", 4);
        e.townFrom(two, "day +1", 4);
        e.townFrom(two, "day 1.0", 5);
        e.townFrom(two, "day 1 0", 6);
        e.townFrom(two, "day x", 4);
        e.townFrom(two, "chest\u00b2", 5);
        e.townFrom(two, "chest :5", 6);
        e.townFrom(two, "chest /5", 6);
        e.townFrom(two, "chest :", 6);
        e.townFrom(two, "chest 5/", 7);
        e.townFrom(two, "chest 5:", 7);
        e.townFrom(two, "trusts 0 :1", 9);
        e.townFrom(two, "trusts 0 /1", 9);
        e.townFrom(two, "trusts 0 1:", 9);
        e.townFrom(two, "trusts 0 1/", 9);
        e.townFrom(two, "trusts : 11", 7);
        e.says("All numbers are of 1 to 3 digits (N 0 to 30).");
        e.law("raise 0", NONE);
        e.law("raise 30", NONE);
        e.law("raise 030", NONE);
        e.law("raise 31", 6);
        e.law("raise 0030", 6);
        e.law("lower 0", NONE);
        e.law("lower 30", NONE);
        e.law("lower 31", 6);
        e.law("lower 999", 6);
        e.law("raise -1", 6);
        e.law("raise 1 if 0<999", NONE);
        e.law("raise 1 if 0<1000", 13);
        e.law("raise 1 if 1000>0", 11);
        e.law("raise 1 if 0<000", NONE);
        e.law("raise 1 if 0<0000", 13);
        e.law("raise 1 if 0<1+1000", 15);
        e.law("raise 1 if 0<-1", 13);
        e.law("raise :", 6);
        e.law("raise /", 6);
        e.law("raise 1 if :<5", 11);
        e.law("raise 1 if 0<:5", 13);
        e.law("raise 1 if 0</5", 13);
    }

    private static void lawLines() {
        e.says("THE LAW (a text, in place of the one before): LINE { ; LINE }, at most 12: raise N [ if C ] | lower N "
                + "[ if C ].");
        DryRiver x = Check.of("person 50 purse 0");
        e.is("twelve", 12, Check.law(x, Edges.repeated("raise 30", 12, ";")));
        e.is("all twelve count", 360, x.person(0, 6));
        e.lawText(x, Edges.repeated("raise 30", 13, ";"), 108);
        e.lawText(x, Edges.repeated("raise 30", 12, ";") + " ; lower 1", 110);
        e.is("the one before stays", 360, x.person(0, 6));
        e.is("in place of it", 1, Check.law(x, "lower 30"));
        e.is("nothing of the one before", -30, x.person(0, 6));
        e.is("twelve lower ones", 12, Check.law(x, Edges.repeated("lower 30", 12, ";")));
        e.is("all of them count", -360, x.person(0, 6));
        for (int text = 0; text < 20; text++) {
            e.is("a law again", 1, Check.law(x, "raise " + text));
        }
        e.is("the latest", 19, x.person(0, 6));
        e.is("no text of the town", 1, x.count(2));
        e.law(";", 0);
        e.law("raise 1;", 8);
        e.law(";raise 1", 0);
        e.law("raise 1;;raise 1", 8);
        e.law("raise 1 raise 1", 8);
        e.law("raise 1,raise 1", 7);
        e.law("raise if dry", 6);
        e.law("if dry raise 1", 0);
        e.law("raise 1 if dry if dry", 15);
        e.law("chest 1", 0);
    }

    private static void lawWords() {
        e.says("ATOM: not ATOM | ( C ) | dry | owner | SUM < SUM | SUM > SUM. SUM: PART { + PART }; PART: NUMBER | who | "
                + "belief | mean | works | ties | day.");
        for (String part : new String[] {"7", "who", "belief", "mean", "works", "ties", "day"}) {
            int at = 11 + part.length();
            e.law("raise 1 if " + part + "<1", NONE);
            e.law("raise 1 if " + part + ">" + part, NONE);
            e.law("raise 1 if " + part + " + " + part + "<1", NONE);
            e.law("raise 1 if " + part, at);
            e.law("raise 1 if " + part + ";raise 1", at);
            e.law("raise 1 if " + part + "=1", at);
            e.law("raise 1 if " + part + "<", at + 1);
            e.law("raise 1 if " + part + "+", at + 1);
            e.law("raise 1 if " + part + "<1<2", at + 2);
            e.law("raise 1 if " + part + "<<1", at + 1);
            e.law("raise 1 if " + part + " and dry", at + 1);
            e.law("raise 1 if " + part + "-1<2", at);
        }
        e.law("raise 1 if dry", NONE);
        e.law("raise 1 if owner", NONE);
        e.law("raise 1 if dry+1<2", 14);
        e.law("raise 1 if owner>0", 16);
        e.law("raise 1 if 1<owner", 13);
        e.law("raise 1 if 1+dry<2", 13);
        e.law("raise 1 if (who)<1", 15);
        e.law("raise 1 if chest>1", 11);
        e.law("raise 1 if not", 14);
        e.law("raise 1 if not and dry", 15);
        e.law("raise 1 if not who<1", NONE);
        e.law("raise 1 if <1", 11);
        e.law("raise 1 if >1", 11);
    }

    private static void lawGrammar() {
        e.says("C: ALL { or ALL }; ALL: ATOM { and ATOM };");
        e.law("raise 1 if dry or", 17);
        e.law("raise 1 if dry and", 18);
        e.law("raise 1 if or dry", 11);
        e.law("raise 1 if dry and or dry", 19);
        e.law("raise 1 if dry or and dry", 18);
        e.law("raise 1 if dry dry", 15);
        e.law("raise 1 if (dry or) or dry", 18);
        e.law("raise 1 if (dry", 15);
        e.law("raise 1 if (dry;", 15);
        e.law("raise 1 if dry)", 14);
        e.law("raise 1 if ()", 12);
        e.law("raise 1 if (dry))", 16);
        // A person of each kind: 0 neither, 1 dry, 2 an owner, 3 both.
        holds("40<belief or dry", 15);
        holds("50<belief or dry", 10);
        holds("999<who or 40<belief and owner", 12);
        holds("dry or owner and owner", 14);
        holds("owner and owner or dry", 14);
        holds("(dry or owner) and owner", 12);
        holds("not dry or owner", 13);
        holds("not (dry or owner)", 1);
        holds("not dry and not owner", 1);
        holds("dry and owner or not dry and not owner", 9);
        holds("dry and not owner or owner and not dry", 6);
    }

    private static void holds(String condition, int people) {
        DryRiver x = Check.of("person 50 purse 0;person 50 purse 0 dry;person 50 purse 0;person 50 purse 0 dry;shares 2 1;"
                + "shares 3 99", "raise 1 if " + condition);
        int bits = 0;
        for (int person = 0; person < 4; person++) {
            bits |= x.person(person, 6) << person;
        }
        e.is("who holds '" + condition + "'", people, bits);
    }

    private static int turnsBy(String town, String law) {
        return Check.of(town, law).person(0, 6);
    }

    private static void turns() {
        e.says("mean: BELIEVED by how many are HERE, rounded down (0 without anybody); works: how many stand; ties: in how "
                + "many others it has a TRUST above 0; owner: it has SHARES.");
        e.is("199 by 2 is 99", 0, turnsBy("person 99 purse 0;person 98 purse 0", "raise 1 if mean>98"));
        e.is("197 by 2 is 98", 1, turnsBy("person 99 purse 0;person 98 purse 0", "raise 1 if mean>97"));
        DryRiver away = Check.of("person 99 purse 0", "raise 2 if mean<1;raise 1 if mean>98");
        e.is("mean of one", 1, away.person(0, 6));
        away.send(0);
        e.is("mean without anybody", 2, away.person(0, 6));
        DryRiver x = Check.of("person 50 purse 0;chest 999;" + SIX, "raise 1 if works>5;raise 2 if works<1");
        e.is("none stands", 2, x.person(0, 6));
        x.days(1);
        e.is("six stand", 1, x.person(0, 6));
        e.is("no tie", 0, ties(Check.of(EIGHT)));
        e.is("a tie of 1", 1, ties(Check.of(EIGHT + ";trusts 0 90000001")));
        e.is("seven ties", 7, ties(Check.of(EIGHT + ";trusts 0 01111111")));
        DryRiver tied = Check.of("person 50 purse 0;person 50 purse 0;trusts 0 01", "raise 1 if ties>0");
        e.is("nobody's tie", 0, tied.person(1, 6));
        tied.tie(1, 0, 1);
        e.is("a tie to the first one", 1, tied.person(1, 6));
        tied.send(1);
        e.is("a tie to one who is away", 1, tied.person(0, 6));
        e.is("a share", 1, turnsBy("person 50 purse 0;shares 0 1", "raise 1 if owner"));
        e.is("no share", 0, turnsBy("person 50 purse 0;shares 0 0", "raise 1 if owner"));
        e.says("TURNS by: the sum of N of all raise LINES that hold less that of all lower LINES. (Without a text: 0, of "
                + "one who is DRY less 1.)");
        DryRiver none = Check.of("person 50 purse 0;person 50 purse 0 dry");
        e.is("without a text", 0, none.person(0, 6));
        e.is("dry without a text", -1, none.person(1, 6));
        Check.law(none, "");
        e.is("with a text of no line", 0, none.person(0, 6));
        e.is("dry, with a text of no line", 0, none.person(1, 6));
        Check.law(none, "raise 3;lower 30;raise 2 if dry;lower 7 if not dry");
        e.is("raise less lower", -34, none.person(0, 6));
        e.is("raise less lower, dry", -25, none.person(1, 6));
        Check.law(none, "raise 1 if dry;raise 2;lower 4 if not dry;lower 8;raise 16 if owner;raise 30;lower 1 if who>0");
        e.is("a line without a condition holds behind one that does not", 2 - 4 - 8 + 30, none.person(0, 6));
        e.is("and behind one that does", 1 + 2 - 8 + 30 - 1, none.person(1, 6));
        e.is("equal is not less", 0, turnsBy("person 50 purse 0", "raise 1 if belief<50"));
        e.is("equal is not more", 0, turnsBy("person 50 purse 0", "raise 1 if belief>50"));
        e.is("less by one", 1, turnsBy("person 50 purse 0", "raise 1 if belief<51"));
        e.is("more by one", 1, turnsBy("person 50 purse 0", "raise 1 if belief>49"));
        e.is("a sum beyond three digits", 1, turnsBy("person 50 purse 0", "raise 1 if 999+999>999+998"));
        e.is("the greatest day", 1, turnsBy("person 50 purse 0;day 999", "raise 1 if day>998"));
    }

    private static void words() {
        e.says("Words are as long as a to z go on;");
        e.townFrom("", "chestday 1", 0);
        e.townFrom("", "chest5;day5", NONE);
        e.townFrom("", "person1purse1dry;trusts0 1;work1need1gain1", NONE);
        e.townFrom("", "person1purse1dryx", 13);
        e.townFrom("", "person1pursex1", 7);
        e.townFrom("", "ch est 5", 0);
        e.townFrom("", "Chest 5", 0);
        e.townFrom("", "chesT 5", 0);
        e.townFrom("", "chest`5", 5);
        e.townFrom("", "chest{5", 5);
        e.townFrom("", "chest/5", 5);
        e.townFrom("", "chest 5:", 7);
        e.townFrom("", "chest 5/", 7);
        e.law("raise1if dry", NONE);
        e.law("raise1ifdry", 6);
        e.law("raise1if not(dry)and(owner)or who<1and belief>2", NONE);
        e.law("raise1if notdry", 9);
        e.law("raise1if dryand owner", 9);
        e.law("raise 1 if dryz", 11);
        e.law("raise 1 if drya", 11);
        eachLetter(TOWN_OF_ALL, false);
        eachLetter(LAW_OF_ALL, true);
        e.law("raise1if who<1and", 17);
        e.law("RAISE 1", 0);
    }

    /** A text with each kind of line, for a town of one person: all of it stands between blanks. */
    private static final String TOWN_OF_ALL = "person 1 purse 2 dry ; trusts 0 01 ; shares 0 1 ; work 1 need 2 gain 3 ; "
            + "chest 4 ; journey 5 ; truth 6 ; day 7";
    private static final String LAW_OF_ALL = "raise 1 if not dry and owner or who + belief > 3 ; "
            + "lower 2 if mean + works + ties + day < 5";

    private static void allOf(String text, boolean ofLaw, int wrongAt) {
        if (ofLaw) {
            e.law(text, wrongAt);
        } else {
            e.townFrom("person 9 purse 9", text, wrongAt);
        }
    }

    /** No letter of a word may be another one, and none may be missing or come behind it. */
    private static void eachLetter(String text, boolean ofLaw) {
        allOf(text, ofLaw, NONE);
        int begin = 0;
        for (String thing : text.split(" ")) {
            String ahead = text.substring(0, begin);
            String behind = text.substring(begin + thing.length());
            for (int at = 0; at < thing.length() && Character.isLetter(thing.charAt(0)); at++) {
                allOf(ahead + thing.substring(0, at) + 'q' + thing.substring(at + 1) + behind, ofLaw, begin);
                allOf(ahead + thing.substring(0, at) + 'z' + thing.substring(at + 1) + behind, ofLaw, begin);
                allOf(ahead + thing.substring(0, at) + 'z' + thing.substring(at) + behind, ofLaw, begin);
            }
            if (Character.isLetter(thing.charAt(0))) {
                allOf(ahead + thing.substring(0, thing.length() - 1) + behind, ofLaw, begin);
                allOf(ahead + thing + 'a' + behind, ofLaw, begin);
                allOf(ahead + thing + 'z' + behind, ofLaw, begin);
                allOf(ahead + Character.toUpperCase(thing.charAt(0)) + thing.substring(1) + behind, ofLaw, begin);
            }
            begin += thing.length() + 1;
        }
    }

    private static void blanks() {
        e.says("between all there may be blanks (32), also ahead and behind.");
        e.townFrom("", "   chest   5   ;   day   6   ", NONE);
        e.townFrom("", "   person   5   purse   6   dry   ;   trusts   0   7   ;   work   5   need   6   gain   7   ", NONE);
        e.law("   raise   5   if   (   not   dry   )   and   who   +   1   <   day   ;   lower   1   ", NONE);
        for (int sign : new int[] {0, 9, 10, 13, 31, 33, 127, 128, 160, 255}) {
            e.townFrom("", "day" + (char) sign + "5", 3);
            e.townFrom("", (char) sign + "day 5", 0);
            e.townFrom("", "day 5" + (char) sign, 5);
            e.law("raise" + (char) sign + "5", 5);
        }
        e.townFrom("", " ".repeat(395) + "day 5", NONE);
        e.townFrom("", "day 5" + " ".repeat(395), NONE);
        e.townFrom("", " ".repeat(396) + "day5", NONE);
        e.townFrom("", " ".repeat(397) + "day", 400);
        e.townFrom("", " ".repeat(399) + "x", 399);
    }

    private static void emptyTexts() {
        e.says("A text that is empty, or blanks alone, has no LINE.");
        DryRiver x = new DryRiver();
        e.townText(x, "", NONE);
        e.townText(x, " ", NONE);
        e.townText(x, " ".repeat(400), NONE);
        e.is("three texts", 3, x.count(2));
        e.is("no law yet", NONE, x.count(3));
        e.is("an empty law", 0, Check.law(x, ""));
        e.is("its lines", 0, x.count(3));
        Check.law(x, "raise 1");
        e.is("a law of blanks", 0, Check.law(x, " ".repeat(400)));
        e.is("its lines, too", 0, x.count(3));
    }

    private static void sixDeep() {
        e.says("( and not within one another at most 6 deep.");
        String six = "not ".repeat(6);
        e.law("raise 1 if " + six + "dry", NONE);
        e.law("raise 1 if " + six + "not dry", 35);
        e.law("raise 1 if " + six + "(dry)", 35);
        e.law("raise 1 if ((((((dry))))))", NONE);
        e.law("raise 1 if (((((((dry)))))))", 17);
        e.law("raise 1 if ((((((not dry))))))", 17);
        e.law("raise 1 if (not(not(not dry)))", NONE);
        e.law("raise 1 if (not(not(not(dry))))", 23);
        e.law("raise 1 if (not(not(not not dry)))", 24);
        // Those beside one another, and those of another line, are not within one another.
        e.law("raise 1 if " + six + "dry and " + six + "owner or " + six + "dry;lower 1 if " + six + "dry", NONE);
        e.law("raise 1 if ((((((dry)))))) and ((((((dry))))))", NONE);
        e.law("raise 1 if (((((dry) and (owner)) or not dry)))", NONE);
        e.law("raise 1 if (((((dry) and (owner)) or not not not dry)))", NONE);
        e.law("raise 1 if (((((dry) and (owner)) or not not not not dry)))", 49);
        e.law("raise 1 if dry and (((((((", 25);
    }

    private static void firstWrongByte() {
        e.says("The first wrong byte: the begin of the first thing that cannot stand there (a number of more digits, or out "
                + "of its bounds, or that tells none that can be; figures of another number; a word that is none; the ( or "
                + "not that is a 7th one deep; of a LINE, a PERSON, a WORK too many, the first word), or the text's length, "
                + "if more must come.");
        String two = "person 1 purse 1;person 1 purse 1";
        e.townFrom(two, "chest   1234", 8);
        e.townFrom(two, "chest 5 ;  truth 101", 17);
        e.townFrom(two, "shares   2 0", 9);
        e.townFrom(two, "trusts 2 1", 7);
        e.townFrom(two, "trusts 1   1", 11);
        e.townFrom(two, "trusts 1   111", 11);
        e.townFrom(two, "chest 5;chost 5", 8);
        e.townFrom(two, "chost 5;chist 5", 0);
        e.townFrom(two, "chest 1000;truth 101", 6);
        e.townFrom(two, "shares 9 999", 7);
        e.townFrom(two, "person 100 purse 1000", 7);
        e.townFrom(two, "person 100", 7);
        e.townFrom(two, "person 5 7", 9);
        e.townFrom(two, "work 0 gain 5", 5);
        e.townFrom(two, "work 5 7", 7);
        e.townFrom(two, "work 1 need 5 7", 14);
        e.townFrom(two, "5", 0);
        e.townFrom(two, "day 1;5", 6);
        withoutOne(TOWN_OF_ALL, false);
        withoutOne(LAW_OF_ALL, true);
        e.law("raise 1 if dry or owner )", 24);
        e.law("raise 1 if ( dry or owner ; raise 1", 26);
        e.law("lower 1 if   not not not not not   not   not dry", 41);
        e.law("raise 31 if dry", 6);
        e.law("raise 1 iff dry", 8);
        e.law("raise 1 if drynot", 11);
        e.law("raise 1 if 1000<x", 11);
        DryRiver x = new DryRiver();
        e.is("ahead of any", NONE, x.fault());
        e.townText(x, "x", 0);
        e.lawText(x, "raise 1;x", 8);
        e.townText(x, "day 5", NONE);
        e.lawText(x, "raise 1;", 8);
        e.lawText(x, "raise 1", NONE);
    }

    /** Where one thing is missing the next one cannot stand; of two numbers it is what comes behind both. */
    private static void withoutOne(String text, boolean ofLaw) {
        String[] things = text.split(" ");
        for (int missing = 0; missing < things.length; missing++) {
            StringBuilder left = new StringBuilder();
            int wrongAt = 0;
            for (int i = 0; i < things.length; i++) {
                if (i != missing) {
                    left.append(left.length() == 0 ? "" : " ").append(things[i]);
                }
                if (i == (isNumber(things, missing) && isNumber(things, missing + 1) ? missing + 1 : missing)) {
                    wrongAt = i == things.length - 1 ? left.length() : left.length() + (left.length() == 0 ? 0 : 1);
                }
            }
            boolean mayBeMissing = !ofLaw && things[missing].equals("dry") || things[missing].equals("not");
            allOf(left.toString(), ofLaw, mayBeMissing ? NONE : wrongAt);
        }
    }

    private static boolean isNumber(String[] things, int at) {
        return at < things.length && Character.isDigit(things[at].charAt(0));
    }

    private static void tooMany() {
        e.says("of a LINE, a PERSON, a WORK too many, the first word");
        String days = Edges.repeated("day 1", 14, ";") + ";";
        e.townFrom("", days + "day 1", 84);
        e.townFrom("", days + "   day 1", 87);
        e.townFrom("", days + "x", 84);
        e.townFrom("", days, 84);
        e.townFrom("", days + "  ", 86);
        e.townFrom(EIGHT, "person", 0);
        e.townFrom(EIGHT, "person 1000 purse 1", 0);
        e.townFrom(EIGHT, "  person 1 purse 1", 2);
        e.townFrom(EIGHT, "shares 0 1;person 1 purse 1", 11);
        e.townFrom(SIX, "work", 0);
        e.townFrom(SIX, "work 0 need 1 gain 1", 0);
        e.townFrom(SIX, "  work 1 need 1 gain 1", 2);
        e.townFrom(SIX, "chest 1;work 1 need 1 gain 1", 8);
        e.townFrom(EIGHT, SIX, NONE);
        e.townFrom(SIX, EIGHT, NONE);
        e.townFrom(EIGHT, SIX + ";day 1;person 1 purse 1", SIX.length() + 7);
        String raises = Edges.repeated("raise 1", 12, ";") + ";";
        e.law(raises + "raise 1", 96);
        e.law(raises + "   raise 1", 99);
        e.law(raises + "x", 96);
        e.law(raises, 96);
        e.law(raises + "  ", 98);
    }

    private static void moreMustCome() {
        e.says("or the text's length, if more must come");
        String one = "person 1 purse 1";
        String[] begun = {"person", "person 1", "person 1 purse", "work", "work 1", "work 1 need", "work 1 need 1",
            "work 1 need 1 gain", "trusts", "trusts 0", "shares", "shares 0", "chest", "journey", "truth", "day", "day 1;"};
        for (String text : begun) {
            e.townFrom(one, text, text.length());
            e.townFrom(one, text + "   ", text.length() + 3);
            e.townFrom(one, "  " + text, text.length() + 2);
            e.townFrom(one, "chest 5;" + text, text.length() + 8);
        }
        String[] laws = {"raise", "lower", "raise 1 if", "raise 1 if not", "raise 1 if (", "raise 1 if (dry", "raise 1 if who",
            "raise 1 if who<", "raise 1 if who>1+", "raise 1 if who+", "raise 1 if dry and", "raise 1 if dry or", "raise 1;"};
        for (String text : laws) {
            e.law(text, text.length());
            e.law(text + "   ", text.length() + 3);
            e.law("lower 3;" + text, text.length() + 8);
        }
        e.townFrom("", "day 1" + " ".repeat(394) + ";", 400);
        e.law("raise 1 if" + " ".repeat(390), 400);
        e.law("raise 1 if ((" + "0<0 or ".repeat(55) + "0", 13 + 386);
    }

    private static void nothingStays() {
        e.says("Of a wrong text nothing stays.");
        String all = "person 2 purse 3 dry;trusts 0 12;trusts 1 34;work 5 need 6 gain 7;chest 8;journey 9;truth 100;shares 0 1;"
                + "day 11";
        DryRiver x = Check.of("person 50 purse 0;truth 0;journey 1", "raise 0");
        e.townText(x, all + ";x", all.length() + 1);
        e.is("nobody came", 1, x.count(0));
        e.is("no work came", 0, x.count(1));
        e.is("the journey stays", 1, x.send(0));
        x.days(2);
        e.is("the truth stays", 0, x.person(0, 0));
        e.townText(x, all + ";", all.length() + 1);
        e.townText(x, all, NONE);
        e.is("the same text, made right", 2, x.count(0));
        e.is("its trust", 2, x.trust(0, 1));
        e.is("its trust, too", 3, x.trust(1, 0));
        e.is("its dry one", 1, x.person(1, 3));
        e.is("its journey", 20, x.send(0));
        DryRiver y = Check.of("person 50 purse 0", "raise 7 if who<1");
        e.lawText(y, "lower 1;lower 2;lower 3 if dry;lower", 36);
        e.is("the law stays", 7, y.person(0, 6));
        e.is("its lines stay", 1, y.count(3));
        DryRiver z = Check.of("person 50 purse 0 dry");
        e.lawText(z, "raise 5;x", 8);
        e.is("no law stays none", NONE, z.count(3));
        e.is("who turns without a law", -1, z.person(0, 6));
    }
}
