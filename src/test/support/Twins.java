import java.util.ArrayList;
import java.util.List;
import java.util.function.Predicate;
import java.util.function.Supplier;
import java.util.function.ToLongFunction;

/** How a refused call is shown to change nothing: a twin that never had it answers the same from then on. */
abstract class Twins extends Checks {
    /** A call that answers a number is refused, and nothing has changed by it. */
    static void refused(String call, long due, Supplier<FetchRules> past, ToLongFunction<FetchRules> asked) {
        FetchRules x = past.get();
        due(call, asked.applyAsLong(x), due);
        List<String> seen = future(x);
        List<String> twin = future(past.get());
        for (int i = 0; i < twin.size(); i++) {
            if (!seen.get(i).equals(twin.get(i))) {
                complain(call + " changed something: later " + seen.get(i) + ", without it " + twin.get(i));
                return;
            }
        }
    }

    /** A call that answers false is refused, and nothing has changed by it. */
    static void refused(String call, Supplier<FetchRules> past, Predicate<FetchRules> asked) {
        refused(call, 0, past, x -> asked.test(x) ? 1 : 0);
    }

    /**
     * An object with something of every kind, OFF-LINE at CLOCK 4. PLACES: 0 WANTS a CREDENTIAL, 1 is CUT, 2 LEADS to 1,
     * 3 LIES and is BARRED, 4 is GONE, 5 does nothing else. WANTS: 0 is DONE, 1 has FAILED, 2 WAITS, 3 FETCHES, 4 is
     * IDLE, 5 has FAILED and LACKS.
     */
    static FetchRules furnished() {
        FetchRules x = new FetchRules(2);
        x.credential(0, true);
        x.credential(3, true);
        x.does(placeWith(x, 0, 2, 1, 2, 3, 4, 5), 2, 1);
        x.cut(placeWith(x, 3, 50, archive("a/b", 1, "c", 0)), 4, 1);
        x.does(placeWith(x, 3, 50, 6), 1, 1);
        x.does(placeWith(x, 7, 1, 8), 3, 1);
        x.does(placeWith(x, 1, 1, 9), 0, 1);
        placeWith(x, 7, 50, archive("x/y", 2, "z", 1));
        begunFrom(x, x.digest(5), 5);
        begunFrom(x, x.digest(3), 3, 4);
        x.tick(2);
        x.unpack(0, 0);
        begunFrom(x, x.digest(1), 2, 5);
        begunFrom(x, x.digest(0), 0);
        x.tick(1);
        wantFrom(x, x.digest(0), 4, 0);
        x.offLine(true);
        begunFrom(x, 77, 1);
        return x;
    }

    /** What an object answers now, and what it comes to by calls that show what it holds inside. */
    private static List<String> future(FetchRules x) {
        List<String> seen = new ArrayList<>();
        look(seen, x);
        note(seen, "begin(4)", x.begin(4));
        for (int i = 0; i < 3; i++) {
            note(seen, "lacks(" + i + ")", x.lacks(i));
        }
        for (int i = 0; i < 4; i++) {
            note(seen, "tick(1)", x.tick(1));
            lookAtStates(seen, x);
        }
        x.offLine(false);
        note(seen, "begin(1)", x.begin(1));
        note(seen, "begin(4)", x.begin(4));
        note(seen, "begin(5)", x.begin(5));
        note(seen, "a new PLACE", x.place(6, 3));
        note(seen, "a new WANT", x.want(88));
        note(seen, "from(6, 3)", x.from(6, 3) ? 1 : 0);
        note(seen, "from(6, 6)", x.from(6, 6) ? 1 : 0);
        note(seen, "begin(6)", x.begin(6));
        note(seen, "tick(3)", x.tick(3));
        look(seen, x);
        return seen;
    }

    private static void note(List<String> seen, String call, long answer) {
        seen.add(call + " " + answer);
    }

    private static void lookAtStates(List<String> seen, FetchRules x) {
        for (int want = 0; want < 7; want++) {
            for (int what = 0; what < 4; what++) {
                note(seen, "about(" + want + ", " + what + ")", x.about(want, what));
            }
        }
    }

    private static void look(List<String> seen, FetchRules x) {
        lookAtStates(seen, x);
        for (int i = 0; i < 7; i++) {
            note(seen, "digest(" + i + ")", x.digest(i));
            note(seen, "about(" + i + ", 4)", x.about(i, 4));
            note(seen, "byteOf(" + i + ", 0)", x.byteOf(i, 0));
            note(seen, "byteOf(" + i + ", 3)", x.byteOf(i, 3));
        }
        for (int host = 0; host < 8; host++) {
            note(seen, "sent(" + host + ")", x.sent(host));
        }
        for (int i = 0; i < 3; i++) {
            note(seen, "barred(" + i + ", 0)", x.barred(i, 0));
            note(seen, "barred(" + i + ", 1)", x.barred(i, 1));
            note(seen, "came(" + i + ")", x.came(i));
            note(seen, "lacks(" + i + ")", x.lacks(i));
            for (int what = 0; what < 4; what++) {
                note(seen, "file(" + i + ", " + what + ")", x.file(i, what));
            }
        }
    }
}
