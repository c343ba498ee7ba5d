import java.io.IOException;
import java.nio.file.Files;
import java.nio.file.Path;
import java.util.NoSuchElementException;

/** What the tests of edges share: each edge stands under the document's own words, which must be found there. */
final class Edges {
    static final Class<?> INDEX = IndexOutOfBoundsException.class;
    static final Class<?> ARGUMENT = IllegalArgumentException.class;
    static final Class<?> STATE = IllegalStateException.class;
    static final Class<?> NO_SUCH = NoSuchElementException.class;
    static final Class<?> UNSUPPORTED = UnsupportedOperationException.class;
    static final int NONE = -1;
    static final int LEAST = Integer.MIN_VALUE;
    static final int GREATEST = Integer.MAX_VALUE;

    private final Check check;
    private final String document;
    private String words = "";
    private int sentences;

    Edges(String name) throws IOException {
        check = new Check(name);
        document = plain(Files.readString(Path.of("../shared/DOC.md")));
    }

    private static String plain(String text) {
        return text.replaceAll("\\s+", " ");
    }

    /** Heads the edges that come: they are those of these words. */
    void says(String ofDocument) {
        words = ofDocument;
        sentences++;
        check.is("these words stand in the document: " + words, true, document.contains(plain(words)));
    }

    void is(String what, long want, long got) {
        check.is("\"" + words + "\": " + what, want, got);
    }

    void is(String what, boolean want, boolean got) {
        check.is("\"" + words + "\": " + what, want, got);
    }

    void is(String what, String want, String got) {
        boolean same = want.equals(got);
        check.is("\"" + words + "\": " + what + (same ? "" : ": " + got + ", due is " + want), true, same);
    }

    void refuses(String what, Class<?> want, Check.Call call) {
        check.refuses("\"" + words + "\": " + what, want, call);
    }

    /** A text of the town is taken (NONE), or is wrong at a byte; then all is as it was. */
    void townText(DryRiver x, String text, int wrongAt) {
        String before = Probe.all(x);
        Check.put(x, Check.bytes(text));
        if (wrongAt == NONE) {
            int texts = x.count(2);
            is("town '" + text + "'", texts + 1, x.town());
        } else {
            refuses("town '" + text + "'", ARGUMENT, x::town);
            is("nothing stays of '" + text + "'", before, Probe.all(x));
        }
        is("fault of '" + text + "'", wrongAt, x.fault());
        is("the tape behind '" + text + "'", false, x.end(1));
    }

    /** A text of the law is taken (NONE), or is wrong at a byte; then all is as it was. */
    void lawText(DryRiver x, String text, int wrongAt) {
        String before = Probe.all(x);
        Check.put(x, Check.bytes(text));
        if (wrongAt == NONE) {
            int lines = x.law();
            is("lines of '" + text + "'", lines, x.count(3));
        } else {
            refuses("law '" + text + "'", ARGUMENT, x::law);
            is("nothing stays of '" + text + "'", before, Probe.all(x));
        }
        is("fault of '" + text + "'", wrongAt, x.fault());
        is("the tape behind '" + text + "'", false, x.end(1));
    }

    void townFrom(String town, String text, int wrongAt) {
        townText(Check.of(town), text, wrongAt);
    }

    void law(String text, int wrongAt) {
        lawText(new DryRiver(), text, wrongAt);
    }

    /** People of these beliefs, each with a purse of 0, and a law by which nobody turns. */
    static DryRiver people(int... beliefs) {
        return Check.of(persons(beliefs), "raise 0");
    }

    static String persons(int... beliefs) {
        StringBuilder text = new StringBuilder();
        for (int belief : beliefs) {
            text.append(text.length() == 0 ? "" : ";").append("person ").append(belief).append(" purse 0");
        }
        return text.toString();
    }

    static String repeated(String text, int times, String between) {
        StringBuilder all = new StringBuilder();
        for (int i = 0; i < times; i++) {
            all.append(i == 0 ? "" : between).append(text);
        }
        return all.toString();
    }

    /** As many days as are told, in calls of sixty at most. */
    static void pass(DryRiver x, int days) {
        for (int left = days; left > 0; left -= 60) {
            x.days(Math.min(60, left));
        }
    }

    void close() {
        System.out.println(sentences + " sentences of the document");
        check.close();
    }
}
