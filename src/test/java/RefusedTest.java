import java.lang.reflect.InvocationTargetException;
import java.lang.reflect.Method;
import java.lang.reflect.Modifier;
import java.util.ArrayList;
import java.util.Arrays;
import java.util.Comparator;
import java.util.List;

/** What a refused call throws, and that it leaves all as it was but for the tape, where it is used up, and fault(). */
final class RefusedTest {
    private static final int[] WILD = {Integer.MIN_VALUE, Integer.MIN_VALUE + 1, -65536, -1, 0, 1, 5, 6, 7, 8, 9, 10, 30, 31, 60, 61,
        99, 100, 101, 792, 793, 65536, Integer.MAX_VALUE - 1, Integer.MAX_VALUE};
    private static Edges e;

    private interface Refused {
        void on(DryRiver x);
    }

    public static void main(String[] args) throws Exception {
        e = new Edges("RefusedTest");
        e.says("Of several exceptions the one told first is thrown; a call that throws changes nothing but the TAPE, where it is "
                + "used up, and fault(), where a text is read (also by one that is refused).");
        e.says("IndexOutOfBoundsException: there is no such PERSON, WORK. IllegalArgumentException: a number is none, or two are "
                + "one. IllegalStateException: it cannot be.");
        noSuchPerson();
        noSuchWork();
        twoAreOne();
        aNumberIsNone();
        itCannotBe();
        theTapeIsNotThat();
        textsAreWrong();
        nothingButTheTape();
        wildNumbers();
        e.close();
    }

    /** A town with all in it: people here and away, works in each state, a law, rows, acts, an image, a tape, a fault. */
    private static DryRiver rich() {
        DryRiver x = Check.of("person 50 purse 30;person 30 purse 100 dry;person 70 purse 0;trusts 0 045;trusts 1 703;trusts 2 220;"
                + "shares 0 99;shares 2 3;work 5 need 150 gain 2;work 4 need 10 gain 3;work 9 need 700 gain 9;journey 2;truth 60;"
                + "day 7", "raise 1 if belief<60;lower 2 if dry and mean>20");
        x.days(1);
        x.send(2);
        x.days(1);
        x.image();
        x.tie(0, 1, 9);
        x.tell(0);
        x.dry(1, false);
        x.seed(-5);
        Check.put(x, Check.bytes("chest x"));
        e.refuses("a wrong text", Edges.ARGUMENT, x::town);
        Check.put(x, Check.bytes("chest 5;day 6"));
        return x;
    }

    /** All of it but fault() and the tape, which are looked at by themselves. */
    private static void leaves(String call, Class<?> thrown, boolean usesTape, Refused refused) {
        DryRiver x = rich();
        DryRiver twin = rich();
        e.refuses(call, thrown, () -> refused.on(x));
        e.is(call + ": fault", 6, x.fault());
        e.is(call + ": tape", usesTape ? 0 : 13, Probe.tape(x));
        if (usesTape) {
            twin.end(0);
        }
        e.is(call + ": all else", Probe.deep(twin), Probe.deep(x));
    }

    private static void keeps(String call, Class<?> thrown, Refused refused) {
        leaves(call, thrown, false, refused);
    }

    private static void noSuchPerson() {
        for (int bad : new int[] {3, 8, -1, Integer.MIN_VALUE, Integer.MAX_VALUE}) {
            keeps("person", Edges.INDEX, x -> x.person(bad, 99));
            keeps("trust of", Edges.INDEX, x -> x.trust(bad, 1));
            keeps("trust in", Edges.INDEX, x -> x.trust(1, bad));
            keeps("tell", Edges.INDEX, x -> x.tell(bad));
            keeps("tie of", Edges.INDEX, x -> x.tie(bad, 1, 10));
            keeps("tie to", Edges.INDEX, x -> x.tie(1, bad, 10));
            keeps("send", Edges.INDEX, x -> x.send(bad));
            keeps("buy", Edges.INDEX, x -> x.buy(bad, 0));
            keeps("sell", Edges.INDEX, x -> x.sell(bad, 0));
            keeps("dry", Edges.INDEX, x -> x.dry(bad, true));
            keeps("ahead", Edges.INDEX, x -> x.ahead(bad, 101));
            keeps("sways", Edges.INDEX, x -> x.sways(bad, 31));
            keeps("word", Edges.INDEX, x -> x.word(bad));
            keeps("steps of", Edges.INDEX, x -> x.steps(bad, 0));
            keeps("steps to", Edges.INDEX, x -> x.steps(0, bad));
            keeps("rests of", Edges.INDEX, x -> x.rests(bad, 0));
            keeps("rests by", Edges.INDEX, x -> x.rests(0, bad));
        }
    }

    private static void noSuchWork() {
        for (int bad : new int[] {3, 6, -1, Integer.MIN_VALUE, Integer.MAX_VALUE}) {
            keeps("work", Edges.INDEX, x -> x.work(bad, 99));
            keeps("plan", Edges.INDEX, x -> x.plan(bad));
            keeps("last", Edges.INDEX, x -> x.last(bad));
            keeps("led", Edges.INDEX, x -> x.led(bad, true));
            keeps("led rows", Edges.INDEX, x -> x.led(bad, false));
        }
    }

    private static void twoAreOne() {
        for (int one = 0; one < 3; one++) {
            int both = one;
            keeps("trust", Edges.ARGUMENT, x -> x.trust(both, both));
            keeps("tie", Edges.ARGUMENT, x -> x.tie(both, both, 5));
            keeps("steps", Edges.ARGUMENT, x -> x.steps(both, both));
            keeps("rests", Edges.ARGUMENT, x -> x.rests(both, both));
        }
    }

    private static void aNumberIsNone() {
        for (int bad : new int[] {-1, 101, Integer.MIN_VALUE, Integer.MAX_VALUE}) {
            keeps("tie", Edges.ARGUMENT, x -> x.tie(0, 1, bad));
            keeps("buy", Edges.ARGUMENT, x -> x.buy(0, bad));
            keeps("sell", Edges.ARGUMENT, x -> x.sell(1, bad));
            keeps("days", Edges.ARGUMENT, x -> x.days(bad));
            keeps("ahead", Edges.ARGUMENT, x -> x.ahead(0, bad));
            keeps("then", Edges.ARGUMENT, x -> x.then(bad, true));
            keeps("sways", Edges.ARGUMENT, x -> x.sways(0, bad));
            keeps("guru", Edges.ARGUMENT, x -> x.guru(bad));
            keeps("must by", Edges.ARGUMENT, x -> x.must(5, bad));
            keeps("dearest", Edges.ARGUMENT, x -> x.dearest(bad, true));
            keeps("falls", Edges.ARGUMENT, x -> x.falls(bad));
            keeps("trial", Edges.ARGUMENT, x -> x.trial(bad, true));
            keeps("span", Edges.ARGUMENT, x -> x.span(bad, true));
            keeps("person", Edges.NO_SUCH, x -> x.person(0, bad));
            keeps("work", Edges.NO_SUCH, x -> x.work(0, bad));
            keeps("log", Edges.NO_SUCH, x -> x.log(0, bad));
        }
        for (int bad : new int[] {0, -1, 793, Integer.MIN_VALUE, Integer.MAX_VALUE}) {
            keeps("must to", Edges.ARGUMENT, x -> x.must(bad, 5));
            keeps("reaches", Edges.ARGUMENT, x -> x.reaches(bad));
        }
        keeps("days 0", Edges.ARGUMENT, x -> x.days(0));
        keeps("days 61", Edges.ARGUMENT, x -> x.days(61));
        keeps("buy 0", Edges.ARGUMENT, x -> x.buy(0, 0));
        keeps("sell 0", Edges.ARGUMENT, x -> x.sell(0, 0));
        keeps("tie 10", Edges.ARGUMENT, x -> x.tie(0, 1, 10));
    }

    private static void itCannotBe() {
        keeps("tell one who is away", Edges.STATE, x -> x.tell(2));
        keeps("send one who is away", Edges.STATE, x -> x.send(2));
        keeps("plan one that stands", Edges.STATE, x -> x.plan(1));
        keeps("plan one that is planned", Edges.STATE, x -> x.plan(2));
        keeps("a hundredth share", Edges.STATE, x -> x.buy(0, 1));
        keeps("an empty purse", Edges.STATE, x -> x.buy(2, 1));
        keeps("a purse that is too small", Edges.STATE, x -> x.buy(1, 99));
        keeps("more than one has", Edges.STATE, x -> x.sell(2, 4));
        keeps("more than the chest has", Edges.STATE, x -> x.sell(0, 99));
    }

    private static void theTapeIsNotThat() {
        // "chest 5;day 6" are thirteen bytes, and neither tales nor rows.
        leaves("river", Edges.ARGUMENT, true, x -> x.river(50));
        leaves("river of no number", Edges.ARGUMENT, true, x -> x.river(101));
        leaves("more", Edges.ARGUMENT, true, x -> x.more(50));
        leaves("more of no number", Edges.ARGUMENT, true, x -> x.more(-1));
        leaves("liars", Edges.ARGUMENT, true, x -> x.liars(false));
        leaves("liars, sure", Edges.ARGUMENT, true, x -> x.liars(true));
        leaves("ask", Edges.ARGUMENT, true, x -> x.ask());
        leaves("tales of a right number", Edges.ARGUMENT, true, x -> {
            Check.put(cut(x), 1, 0, 2);
            x.river(50);
        });
        leaves("a number that is none with right tales", Edges.ARGUMENT, true, x -> {
            Check.put(cut(x), 1, 0, 1);
            x.river(101);
        });
        leaves("thirteen tales", Edges.ARGUMENT, true, x -> {
            Check.put(cut(x), 1, 1, 1, 1, 1, 1, 1, 1, 1, 1, 1, 1, 1);
            x.more(50);
        });
        leaves("a row of nobody", Edges.ARGUMENT, true, x -> {
            Check.put(cut(x), 0, 3, 1);
            x.liars(true);
        });
        leaves("a row of one", Edges.ARGUMENT, true, x -> {
            Check.put(cut(x), 2, 2, 1);
            x.ask();
        });
        leaves("thirteen rows", Edges.ARGUMENT, true, x -> {
            int[] rows = new int[39];
            for (int i = 1; i < 39; i += 3) {
                rows[i] = 1;
            }
            Check.put(cut(x), rows);
            x.ask();
        });
    }

    private static DryRiver cut(DryRiver x) {
        x.end(0);
        return x;
    }

    private static void wrongText(String text, int fault, boolean ofLaw, Class<?> thrown, boolean twelve) {
        DryRiver x = rich();
        DryRiver twin = rich();
        for (DryRiver each : List.of(x, twin)) {
            each.end(0);
            for (int texts = each.count(2); twelve && texts < 12; texts++) {
                each.town();
            }
            each.tell(0);
        }
        Check.put(x, Check.bytes(text));
        e.refuses(text, thrown, () -> {
            if (ofLaw) {
                x.law();
            } else {
                x.town();
            }
        });
        e.is("fault of " + text, fault, x.fault());
        e.is("the tape behind " + text, 0, Probe.tape(x));
        e.is("all else behind " + text, Probe.deep(twin), Probe.deep(x));
    }

    private static void textsAreWrong() {
        String all = "person 2 purse 3 dry;trusts 0 1234;work 5 need 6 gain 7;chest 8;journey 9;truth 100;shares 0 1;day 11";
        wrongText(all + ";", all.length() + 1, false, Edges.ARGUMENT, false);
        wrongText(all + " x", all.length() + 1, false, Edges.ARGUMENT, false);
        wrongText(all + ";", all.length() + 1, false, Edges.ARGUMENT, true);
        wrongText(all, -1, false, Edges.UNSUPPORTED, true);
        wrongText("", -1, false, Edges.UNSUPPORTED, true);
        wrongText("raise 9;lower 3 if dry;", 23, true, Edges.ARGUMENT, false);
        wrongText("raise 9 if not", 14, true, Edges.ARGUMENT, true);
    }

    /** Calls that only look leave all as it was, too. */
    private static void nothingButTheTape() {
        DryRiver x = rich();
        DryRiver twin = rich();
        for (int n = 0; n <= 30; n += 10) {
            x.ahead(0, n);
            x.then(n, true);
            x.sways(1, n);
            x.guru(n);
            x.must(100 + n, n);
            x.reaches(100 + n);
            x.dearest(n, true);
            x.falls(n);
            x.trial(n, false);
            x.span(n, true);
        }
        x.doubts();
        x.ruin();
        x.chosen(true);
        x.word(0);
        x.steps(0, 1);
        x.circles();
        x.hermits();
        x.rests(0, 1);
        x.richest();
        x.firmest();
        x.last(0);
        x.led(0, true);
        x.seed(x.seed(4));
        e.is("the tape of one that was looked at", 13, Probe.tape(x));
        e.is("one that was looked at", Probe.deep(twin), Probe.deep(x));
        tapeOf("river", rich(), 1, 0, 1);
        tapeOf("more", rich(), 1, 0, 1);
        tapeOf("liars", rich(), 0, 1, 1);
        tapeOf("ask", rich(), 0, 1, 1);
    }

    private static void tapeOf(String call, DryRiver x, int... bytes) {
        DryRiver twin = rich();
        twin.end(0);
        Check.put(cut(x), bytes);
        switch (call) {
            case "river":
                x.river(50);
                break;
            case "more":
                x.more(50);
                break;
            case "liars":
                x.liars(true);
                break;
            default:
                x.ask();
                break;
        }
        e.is("fault behind " + call, 6, x.fault());
        e.is("all but the tape behind " + call, Probe.deep(twin), Probe.deep(x));
    }

    /** Whatever numbers come, in whatever town: nothing is thrown but what the face names, and by a throw of the class. */
    private static void wildNumbers() throws Exception {
        List<Method> face = new ArrayList<>();
        for (Method m : DryRiver.class.getDeclaredMethods()) {
            if (Modifier.isPublic(m.getModifiers())) {
                face.add(m);
            }
        }
        face.sort(Comparator.comparing(Method::getName));
        e.is("methods of the face", 50, face.size());
        for (int town = 0; town < 5; town++) {
            DryRiver x = town(town);
            for (Method m : face) {
                x.image();
                wild(x, m, new Object[m.getParameterCount()], 0);
                x.back();
            }
        }
    }

    private static DryRiver town(int which) {
        if (which == 0) {
            return new DryRiver();
        }
        if (which == 1) {
            return Check.of("person 0 purse 0");
        }
        DryRiver x = Check.of(Edges.repeated("person 99 purse 999 dry", 8, ";") + ";"
                + Edges.repeated("work 1 need 700 gain 20", 6, ";"));
        StringBuilder ties = new StringBuilder("chest 999;truth 50;journey 30");
        for (int person = 0; person < 8; person++) {
            ties.append(";trusts ").append(person).append(" 99999999");
        }
        Check.town(x, ties.toString());
        if (which == 2) {
            return x;
        }
        Check.law(x, "lower 30 if not not not not not not dry or who+belief+mean+works+ties+day>999;raise 30 if owner");
        for (int person = 0; person < 8 && which == 4; person++) {
            x.send(person);
        }
        return x;
    }

    private static void wild(DryRiver x, Method m, Object[] args, int at) throws Exception {
        if (at == args.length) {
            wildCall(x, m, args);
            return;
        }
        if (m.getParameterTypes()[at] == boolean.class) {
            for (boolean is : new boolean[] {false, true}) {
                args[at] = is;
                wild(x, m, args, at + 1);
            }
            return;
        }
        // The five numbers of feed are the same, and so are those of must but for the first ones: they take long.
        int[] numbers = m.getName().equals("must") && at == 1 ? new int[] {Integer.MIN_VALUE, -1, 0, 1, 31, Integer.MAX_VALUE} : WILD;
        for (int number : m.getName().equals("feed") && at > 0 ? new int[] {(Integer) args[0]} : numbers) {
            args[at] = number;
            wild(x, m, args, at + 1);
        }
    }

    private static void wildCall(DryRiver x, Method m, Object[] args) throws Exception {
        String call = m.getName() + Arrays.toString(args);
        try {
            m.invoke(x, args);
        } catch (InvocationTargetException e) {
            Throwable thrown = e.getCause();
            RefusedTest.e.is(call + " may throw " + thrown, true, Arrays.asList(m.getExceptionTypes()).contains(thrown.getClass()));
            RefusedTest.e.is(call + " throws by itself", true, thrown.getStackTrace()[0].getClassName().startsWith("DryRiver"));
        }
    }
}
