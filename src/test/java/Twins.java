/**
 * "What throws, or answers false, NONE or a fault changes nothing": two objects are brought to the same state, one of
 * them is asked for what is refused, and then all that the probes see of both must be the same.
 */
final class Twins {
    /** Calls on an object. */
    interface Steps {
        void on(ScanCoder x);
    }

    /** Calls on an object, and what they answer. */
    private interface Probe {
        void on(ScanCoder x, StringBuilder seen);
    }

    // Each one sees a part of the state and may change it: each gets objects of its own, for at most 512 calls.
    private static final Probe[] PROBES = {
        Twins::measures, Twins::bytes, Twins::coefficients, Twins::writing, Twins::reading, Twins::tallying,
        Twins::componentsAlone, Twins::wordsOfTables, Twins::draftAsItIs, Twins::draftWithMore, Twins::roomOfDraft,
    };

    private Twins() {
    }

    static void changesNothing(String what, Steps before, Steps refused) {
        for (int i = 0; i < PROBES.length + 8; i++) {
            Kit.sameText(what + ", probe " + i, seen(before, refused, i), seen(before, x -> { }, i));
        }
    }

    /** That a change is seen: else changesNothing() would tell nothing. */
    static void changes(String what, Steps before, Steps change) {
        boolean found = false;
        for (int i = 0; i < PROBES.length + 8; i++) {
            found |= !seen(before, change, i).equals(seen(before, x -> { }, i));
        }
        Kit.yes(what + " is seen", found);
    }

    private static String seen(Steps before, Steps more, int probe) {
        ScanCoder x = new ScanCoder();
        before.on(x);
        more.on(x);
        StringBuilder seen = new StringBuilder();
        if (probe < PROBES.length) {
            PROBES[probe].on(x, seen);
        } else {
            tallied(x, probe - PROBES.length, seen);
        }
        return seen.toString();
    }

    private static void say(StringBuilder seen, boolean answer) {
        seen.append(answer ? 'T' : 'F');
    }

    private static void say(StringBuilder seen, int answer) {
        seen.append(answer).append(' ');
    }

    private static void measures(ScanCoder x, StringBuilder seen) {
        for (int which = 0; which < 26; which++) {
            say(seen, x.look(which));
        }
    }

    /** All bytes, or about 300 of them, if there are more, with the last ones. */
    private static void bytes(ScanCoder x, StringBuilder seen) {
        int length = x.look(0);
        int step = 1 + length / 300;
        for (int k = (length - 1) % step; k <= length; k += step) {
            say(seen, x.data(k));
        }
    }

    private static void coefficients(ScanCoder x, StringBuilder seen) {
        int calls = 0;
        for (int c = 0; c < 4; c++) {
            int blocks = Math.max(0, x.look(8 + 4 * c)) * Math.max(0, x.look(9 + 4 * c));
            for (int i = 0; i < blocks * 64 && calls < 330; i++) {
                say(seen, x.get(c, i / 64, i % 64));
                calls++;
            }
        }
    }

    /** The scan, the interval and what else an answer of write() depends on. */
    private static void writing(ScanCoder x, StringBuilder seen) {
        say(seen, x.write());
        bytes(x, seen);
    }

    private static void reading(ScanCoder x, StringBuilder seen) {
        say(seen, x.read());
        say(seen, x.look(4));
        coefficients(x, seen);
    }

    private static void tallying(ScanCoder x, StringBuilder seen) {
        say(seen, x.tally());
        for (int t = 0; t < 8; t++) {
            for (int s = 0; s < (t < 4 ? 12 : 50); s++) {
                say(seen, x.often(t, s));
            }
        }
    }

    private static void tallied(ScanCoder x, int t, StringBuilder seen) {
        for (int s = 0; s < 256; s++) {
            say(seen, x.often(t, s));
        }
    }

    /** Tables and coefficients of each component. */
    private static void componentsAlone(ScanCoder x, StringBuilder seen) {
        x.restart(0);
        for (int c = 0; c < 4; c++) {
            say(seen, x.scan(1 << c, 0, 63, 0, 0));
            say(seen, x.tally());
            for (int t = 0; t < 8; t++) {
                say(seen, x.often(t, 0));
            }
            say(seen, x.write());
            for (int k = 0; k < 40; k++) {
                say(seen, x.data(k));
            }
        }
    }

    /** The words for 0, 1 and 2, by coefficients of these sizes (an empty band is a run, whose word is that for 0). */
    private static void wordsOfTables(ScanCoder x, StringBuilder seen) {
        say(seen, x.frame(8, 8, 1, 0));
        for (int value = 0; value < 4; value = 2 * value + 1) {
            x.set(0, 0, 0, value);
            x.set(0, 0, 1, -value);
            for (int t = 0; t < 4; t++) {
                say(seen, x.tables(0, t, 4 + t));
                for (int k = 0; k < 2; k++) {
                    say(seen, x.scan(1, k, k, 0, 0));
                    say(seen, x.write());
                    say(seen, x.data(0));
                    say(seen, x.data(1));
                }
            }
        }
    }

    private static void draftAsItIs(ScanCoder x, StringBuilder seen) {
        say(seen, x.make(0));
        say(seen, x.make(4));
        say(seen, x.look(5));
        writing(x, seen);
    }

    /** A draft that lacks the symbol 0 has it then. */
    private static void draftWithMore(ScanCoder x, StringBuilder seen) {
        say(seen, x.symbols(0, 1));
        draftAsItIs(x, seen);
        wordsOfTables(x, seen);
    }

    private static void roomOfDraft(ScanCoder x, StringBuilder seen) {
        int accepted = 0;
        for (int i = 0; i < 300; i++) {
            accepted += x.symbols(i, 1) ? 1 : 0;
        }
        say(seen, accepted);
    }
}
