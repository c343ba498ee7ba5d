import java.lang.reflect.InvocationTargetException;
import java.lang.reflect.Method;
import java.lang.reflect.Modifier;
import java.util.ArrayList;
import java.util.Arrays;
import java.util.Comparator;
import java.util.List;
import java.util.Random;

/** Runs of random calls, each one's answer held against the model's: always the same runs, by fixed seeds. */
final class ModelTest {
    private static final int RUNS = 800;
    private static final int CALLS = 200;
    private static final String[] FIRST = {"person", "trusts", "work", "chest", "journey", "truth", "shares", "day"};
    private static final String[] PARTS = {"who", "belief", "mean", "works", "ties", "day"};

    private final Random random;
    private final DryRiver x = new DryRiver();
    private final Model model = new Model();
    private final List<String> told = new ArrayList<>();
    private int people;

    private ModelTest(long seed) {
        random = new Random(seed);
    }

    public static void main(String[] args) throws Exception {
        int runs = args.length > 0 ? Integer.parseInt(args[0]) : RUNS;
        long first = args.length > 1 ? Long.parseLong(args[1]) : 0;
        List<Method> face = new ArrayList<>();
        for (Method m : DryRiver.class.getDeclaredMethods()) {
            if (Modifier.isPublic(m.getModifiers())) {
                face.add(m);
            }
        }
        face.sort(Comparator.comparing(Method::getName));
        for (int run = 0; run < runs; run++) {
            ModelTest test = new ModelTest(first + run);
            if (!test.goes(face)) {
                System.out.println("ModelTest: run " + (first + run) + " goes wrong");
                int size = test.told.size();
                test.told.subList(Math.max(0, size - 40), size).forEach(System.out::println);
                System.exit(1);
            }
        }
        System.out.println("ModelTest: " + runs + " runs go as in the model");
    }

    private boolean goes(List<Method> face) throws Exception {
        if (random.nextInt(10) > 0 && !startingTown()) {
            return false;
        }
        for (int i = 0; i < CALLS; i++) {
            if (!anyCall(face)) {
                return false;
            }
        }
        for (int what = -1; what < 15; what++) {
            if (!same("count", what)) {
                return false;
            }
        }
        return true;
    }

    /** A town that is right, so that a run is not about texts alone. */
    private boolean startingTown() throws Exception {
        StringBuilder text = new StringBuilder();
        int n = 1 + random.nextInt(8);
        for (int i = 0; i < n; i++) {
            text.append("person ").append(random.nextInt(100)).append(" purse ").append(random.nextInt(1000));
            text.append(random.nextInt(4) == 0 ? " dry;" : ";");
        }
        text.append("truth ").append(random.nextInt(101)).append(";journey ").append(1 + random.nextInt(8));
        if (!read("town", text.toString())) {
            return false;
        }
        people = n;
        StringBuilder ties = new StringBuilder();
        for (int i = 0; i < n; i++) {
            ties.append(i == 0 ? "" : ";").append("trusts ").append(i).append(' ').append(figures(n));
        }
        int works = random.nextInt(7);
        for (int i = 0; i < works; i++) {
            ties.append(";work ").append(1 + random.nextInt(25)).append(" need ").append(random.nextInt(n * 80));
            ties.append(" gain ").append(random.nextInt(21));
        }
        return read("town", ties.toString());
    }

    private String figures(int n) {
        StringBuilder text = new StringBuilder();
        boolean few = random.nextBoolean();
        for (int i = 0; i < n; i++) {
            text.append(few && random.nextInt(4) > 0 ? 0 : random.nextInt(10));
        }
        return text.toString();
    }

    private boolean read(String what, String text) throws Exception {
        told.add("text: \"" + text + "\"");
        return fed(text.chars().toArray()) && same(what) && same("fault") && same("count", 0) && same("count", 12);
    }

    private boolean fed(int[] bytes) throws Exception {
        int[] all = bytes.length > 400 ? Arrays.copyOf(bytes, 400) : bytes;
        if (!same("end", 0)) {
            return false;
        }
        for (int from = 0; from < all.length; from += 20) {
            Object[] five = new Object[5];
            for (int i = 0; i < 5; i++) {
                int n = 0;
                for (int k = 0; k < 4; k++) {
                    int at = from + 4 * i + k;
                    n = n << 8 | (at < all.length ? all[at] : random.nextInt(256));
                }
                five[i] = n;
            }
            if (!same("feed", five)) {
                return false;
            }
        }
        return same("end", all.length);
    }

    private boolean anyCall(List<Method> face) throws Exception {
        int kind = random.nextInt(20);
        if (kind == 0) {
            return read("law", spoilt(lawText()));
        }
        if (kind == 1 && random.nextInt(3) == 0) {
            return read("town", spoilt(townText()));
        }
        if (kind == 2) {
            int[] tales = new int[random.nextInt(14)];
            for (int i = 0; i < tales.length; i++) {
                tales[i] = random.nextInt(60) == 0 ? 2 : random.nextInt(2);
            }
            return fed(tales) && same(random.nextBoolean() ? "river" : "more", random.nextInt(103) - 1);
        }
        if (kind == 3) {
            return said();
        }
        if (kind < 8) {
            return same("days", random.nextInt(4) == 0 ? random.nextInt(63) - 1 : 1 + random.nextInt(4));
        }
        Method m = face.get(random.nextInt(face.size()));
        if (m.getName().equals("town") || m.getName().equals("feed")) {
            return same("count", random.nextInt(15) - 1);
        }
        Object[] args = new Object[m.getParameterCount()];
        for (int i = 0; i < args.length; i++) {
            args[i] = m.getParameterTypes()[i] == boolean.class ? (Object) random.nextBoolean() : number(m.getName(), i);
        }
        return same(m.getName(), args);
    }

    private Integer number(String call, int i) {
        if (random.nextInt(40) == 0) {
            return new int[] {Integer.MIN_VALUE, -1, 8, 61, 101, 793, Integer.MAX_VALUE}[random.nextInt(7)];
        }
        boolean second = i == 1;
        switch (call) {
            case "must":
                return second ? random.nextInt(6) : 1 + random.nextInt(99 * Math.max(1, people));
            case "reaches":
                return 1 + random.nextInt(99 * Math.max(1, people));
            case "guru":
            case "span":
            case "trial":
            case "then":
            case "falls":
            case "dearest":
                return random.nextInt(32);
            case "seed":
                return random.nextInt();
            case "log":
                return second ? random.nextInt(5) : random.nextInt(62);
            case "count":
                return random.nextInt(15);
            case "sways":
            case "ahead":
                return second ? random.nextInt(32) : random.nextInt(Math.max(1, people));
            case "buy":
            case "sell":
                return second ? 1 + random.nextInt(6) : random.nextInt(Math.max(1, people));
            case "person":
            case "tie":
                return i > 0 ? random.nextInt(10) : random.nextInt(Math.max(1, people));
            default:
                return random.nextInt(Math.max(1, people));
        }
    }

    private boolean said() throws Exception {
        int[] rows = new int[3 * random.nextInt(6)];
        for (int i = 0; i < rows.length; i++) {
            rows[i] = i % 3 == 2 ? random.nextInt(2) : random.nextInt(Math.max(1, people));
            if (i % 3 == 1 && rows[i] == rows[i - 1] && people > 1 && random.nextInt(20) > 0) {
                rows[i] = (rows[i] + 1) % people;
            }
            if (random.nextInt(90) == 0) {
                rows[i] = random.nextInt(256);
            }
        }
        if (random.nextInt(30) == 0) {
            rows = Arrays.copyOf(rows, random.nextInt(42));
        }
        return fed(rows) && (random.nextBoolean() ? same("ask") : same("liars", random.nextBoolean()));
    }

    private String townText() {
        StringBuilder text = new StringBuilder();
        int lines = random.nextInt(4) == 0 ? random.nextInt(17) : random.nextInt(4);
        for (int i = 0; i < lines; i++) {
            text.append(i == 0 ? "" : ";").append(townLine(FIRST[random.nextInt(FIRST.length)]));
        }
        return text.toString();
    }

    private String townLine(String word) {
        switch (word) {
            case "person":
                return "person " + random.nextInt(102) + " purse " + random.nextInt(1010) + (random.nextBoolean() ? " dry" : "");
            case "work":
                return "work " + random.nextInt(101) + " need " + random.nextInt(805) + " gain " + random.nextInt(22);
            case "trusts":
                return "trusts " + random.nextInt(people + 1) + " " + figures(people + (random.nextInt(8) == 0 ? 1 : 0));
            case "shares":
                return "shares " + random.nextInt(people + 1) + " " + random.nextInt(101);
            case "journey":
                return "journey " + random.nextInt(32);
            case "truth":
                return "truth " + random.nextInt(102);
            default:
                return word + " " + random.nextInt(random.nextBoolean() ? 50 : 1003);
        }
    }

    private String lawText() {
        StringBuilder text = new StringBuilder();
        int lines = random.nextInt(8) == 0 ? random.nextInt(15) : random.nextInt(5);
        for (int i = 0; i < lines; i++) {
            text.append(i == 0 ? "" : ";").append(random.nextBoolean() ? "raise " : "lower ").append(random.nextInt(12));
            if (random.nextInt(4) > 0) {
                text.append(" if ").append(condition(random.nextInt(20) == 0 ? 8 : random.nextInt(4)));
            }
        }
        return text.toString();
    }

    private String condition(int deep) {
        int kind = random.nextInt(deep > 0 ? 9 : 5);
        switch (kind) {
            case 0:
                return "dry";
            case 1:
                return "owner";
            case 5:
                return "not " + condition(deep - 1);
            case 6:
                return "(" + condition(deep - 1) + ")";
            case 7:
                return condition(deep - 1) + " and " + condition(deep - 1);
            case 8:
                return condition(deep - 1) + " or " + condition(deep - 1);
            default:
                return sum() + (random.nextBoolean() ? "<" : " > ") + sum();
        }
    }

    private String sum() {
        String part = random.nextBoolean() ? PARTS[random.nextInt(PARTS.length)] : "" + random.nextInt(90);
        return random.nextInt(3) == 0 ? part + "+" + sum() : part;
    }

    /** A text of which now and then a byte is another one, is gone, or is one too many. */
    private String spoilt(String text) {
        StringBuilder is = new StringBuilder(text);
        if (random.nextInt(3) > 0) {
            return text;
        }
        String signs = " ;()<>+019azA{/:`\u0000\u00e9notdryif";
        int times = 1 + random.nextInt(2);
        for (int i = 0; i < times; i++) {
            int at = random.nextInt(is.length() + 1);
            char sign = signs.charAt(random.nextInt(signs.length()));
            int how = random.nextInt(3);
            if (how == 0 || at == is.length()) {
                is.insert(at, sign);
            } else if (how == 1) {
                is.deleteCharAt(at);
            } else {
                is.setCharAt(at, sign);
            }
        }
        return is.toString();
    }

    private boolean same(String call, Object... args) throws Exception {
        String want = answer(Model.class, model, call, args);
        String got = answer(DryRiver.class, x, call, args);
        told.add(call + Arrays.toString(args) + " = " + got);
        if (call.equals("town") || call.equals("undo") || call.equals("back")) {
            people = model.count(0);
        }
        if (!want.equals(got)) {
            told.add("due is " + want);
            return false;
        }
        return true;
    }

    private static String answer(Class<?> of, Object object, String call, Object[] args) throws Exception {
        Class<?>[] types = new Class<?>[args.length];
        for (int i = 0; i < args.length; i++) {
            types[i] = args[i] instanceof Boolean ? boolean.class : int.class;
        }
        Method m = of.getDeclaredMethod(call, types);
        try {
            return String.valueOf(m.invoke(object, args));
        } catch (InvocationTargetException e) {
            return e.getCause().getClass().getName();
        }
    }
}
