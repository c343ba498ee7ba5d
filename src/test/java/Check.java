/** What the tests share: texts that come on the tape, and answers held against those that are due. */
final class Check {
    interface Call {
        void run();
    }

    private final String name;
    private int held;
    private int wrong;

    Check(String name) {
        this.name = name;
    }

    static void put(DryRiver x, int... bytes) {
        for (int from = 0; from < bytes.length; from += 20) {
            int[] five = new int[5];
            for (int i = 0; i < 20; i++) {
                int b = from + i < bytes.length ? bytes[from + i] : 0;
                five[i / 4] |= b << 24 - 8 * (i % 4);
            }
            x.feed(five[0], five[1], five[2], five[3], five[4]);
        }
        x.end(bytes.length);
    }

    static int[] bytes(String text) {
        return text.chars().toArray();
    }

    static int town(DryRiver x, String text) {
        put(x, bytes(text));
        return x.town();
    }

    static int law(DryRiver x, String text) {
        put(x, bytes(text));
        return x.law();
    }

    static DryRiver of(String town) {
        DryRiver x = new DryRiver();
        town(x, town);
        return x;
    }

    static DryRiver of(String town, String law) {
        DryRiver x = of(town);
        law(x, law);
        return x;
    }

    void is(String what, long want, long got) {
        held++;
        if (want != got) {
            wrong++;
            System.out.println(name + ": " + what + " answered " + got + ", due is " + want);
        }
    }

    void is(String what, boolean want, boolean got) {
        is(what, want ? 1 : 0, got ? 1 : 0);
    }

    void is(String what, String want, String got) {
        held++;
        if (!want.equals(got)) {
            wrong++;
            System.out.println(name + ": " + what + " answered " + got + ", due is " + want);
        }
    }

    /** The class must be the very one: what the machine throws is of a class below it. */
    void refuses(String what, Class<?> want, Call call) {
        held++;
        Class<?> got = null;
        try {
            call.run();
        } catch (RuntimeException e) {
            got = e.getClass();
        }
        if (got != want) {
            wrong++;
            System.out.println(name + ": " + what + " threw " + got + ", due is " + want);
        }
    }

    void close() {
        System.out.println(name + ": " + held + " answers, " + wrong + " wrong");
        if (wrong != 0) {
            System.exit(1);
        }
    }
}
