/** All of an object that can be looked at, as a text, so that two of them can be held against one another. */
final class Probe {
    private Probe() {
    }

    /** All but the tape and fault(); nothing changes by it. */
    static String all(DryRiver x) {
        StringBuilder seen = new StringBuilder();
        for (int what = 0; what <= 12; what++) {
            seen.append(x.count(what)).append(',');
        }
        int seed = x.seed(0);
        x.seed(seed);
        seen.append(" seed ").append(seed).append(" price ").append(x.price()).append(" home ").append(x.home());
        people(x, seen);
        works(x, seen);
        for (int ago = 0; ago < x.count(11); ago++) {
            seen.append(" row");
            for (int what = 0; what < 4; what++) {
                seen.append(' ').append(x.log(ago, what));
            }
        }
        return seen.toString();
    }

    private static void people(DryRiver x, StringBuilder seen) {
        for (int person = 0; person < x.count(0); person++) {
            seen.append(" person");
            for (int what = 0; what <= 8; what++) {
                seen.append(' ').append(x.person(person, what));
            }
            seen.append(" trusts");
            for (int other = 0; other < x.count(0); other++) {
                seen.append(' ').append(other == person ? 0 : x.trust(person, other));
            }
        }
    }

    private static void works(DryRiver x, StringBuilder seen) {
        for (int work = 0; work < x.count(1); work++) {
            seen.append(" work");
            for (int what = 0; what <= 3; what++) {
                seen.append(' ').append(x.work(work, what));
            }
        }
    }

    /** How many bytes the tape has; it has them then, too. */
    static int tape(DryRiver x) {
        int size = 400;
        while (size >= 0 && !x.end(size)) {
            size--;
        }
        return size;
    }

    /** All, and all behind each act that can be undone, behind the image, and what the tape is as a text: uses it up. */
    static String deep(DryRiver x) {
        StringBuilder seen = new StringBuilder(all(x));
        // What cannot be looked at by itself shows in who comes back when, and with which tale.
        seen.append(" trial ").append(x.trial(60, false)).append(' ').append(x.trial(60, true));
        while (x.undo()) {
            seen.append("\nundone: ").append(all(x));
        }
        seen.append("\nback ").append(x.back()).append(": ").append(all(x));
        seen.append("\ntape ").append(tape(x)).append(": ");
        try {
            seen.append(x.town());
        } catch (IllegalArgumentException e) {
            seen.append("wrong");
        } catch (UnsupportedOperationException e) {
            seen.append("too many");
        }
        return seen.append(' ').append(x.fault()).append(' ').append(all(x)).toString();
    }
}
