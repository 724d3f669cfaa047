import java.util.Random;

/** Long runs of calls with arguments of all kinds: none may throw, and each answers what the model answers. */
public final class FetchRulesWild extends Checks {
    private static final int RUNS = 6000;
    private static final int MOST_CALLS = 512;
    private static final int[] EXTREMES = {LOW, -1000, -2, -1, 6, 8, 10, 16, 51, 100, 101, HIGH};

    private final Random random;
    private final FetchRules real;
    private final Model model;
    private int calls = 0;

    private FetchRulesWild(int run) {
        random = new Random(run);
        int retries = run % 8 - 1;
        real = new FetchRules(retries);
        model = new Model(retries);
    }

    public static void main(String[] args) {
        String[] kinds = {"WANTS that are DONE", "WANTS that FAILED", "WANTS that WAIT", "runs with a BARRED PLACE",
            "runs with a WANT that LACKS", "runs with a FILE"};
        int[] reached = new int[kinds.length];
        for (int run = 0; run < RUNS; run++) {
            heldTo = "run " + run;
            new FetchRulesWild(run).play(reached);
        }
        heldTo = "all runs";
        for (int i = 0; i < reached.length; i++) {
            // Runs that never come that far would look at nothing.
            due("enough " + kinds[i], reached[i] > RUNS / 30, true);
        }
        end();
    }

    private void play(int[] reached) {
        furnish();
        while (calls < MOST_CALLS - 13) {
            switch (random.nextInt(5)) {
                case 0:
                    build();
                    break;
                case 1:
                    go();
                    break;
                case 2:
                    lookAtWants();
                    break;
                default:
                    look();
                    break;
            }
        }
        for (int want = 0; want < 10; want++) {
            int state = real.about(want, 0);
            reached[0] += state == DONE ? 1 : 0;
            reached[1] += state == FAILED ? 1 : 0;
            reached[2] += state == WAITS ? 1 : 0;
        }
        reached[3] += real.barred(0, 0) != NONE ? 1 : 0;
        reached[4] += real.lacks(0) != NONE ? 1 : 0;
        reached[5] += real.file(0, 0) != NONE ? 1 : 0;
    }

    private void same(String call, long got, long want) {
        calls++;
        due(call, got, want);
    }

    private void same(String call, boolean got, long want) {
        same(call, got ? 1 : 0, want);
    }

    /** Mostly least .. most, so that runs come far; now and then something else. */
    private int some(int least, int most) {
        boolean isOdd = random.nextInt(25) == 0;
        return isOdd ? EXTREMES[random.nextInt(EXTREMES.length)] : least + random.nextInt(most - least + 1);
    }

    private static String written(String name, long... arguments) {
        StringBuilder text = new StringBuilder(name).append('(');
        for (int i = 0; i < arguments.length; i++) {
            text.append(i == 0 ? "" : ", ").append(arguments[i]);
        }
        return text.append(')').toString();
    }

    // ---- calls that build

    /** PLACES with ARCHIVES and WANTS of these, since arguments by chance alone rarely fit one another. */
    private void furnish() {
        for (int i = 0; i < 6; i++) {
            place(random.nextInt(4), 1 + random.nextInt(i % 2 == 0 ? 8 : 50));
            for (int j = random.nextInt(4); j > 0; j--) {
                appendEntry(i);
            }
            want(real.digest(i));
            from(i, random.nextInt(6));
            from(i, i);
            from(i, random.nextInt(6));
        }
    }

    private void build() {
        int place = some(0, 7);
        switch (random.nextInt(10)) {
            case 0:
                credential(some(0, 4), random.nextInt(3) != 0);
                break;
            case 1:
                place(some(0, 7), some(1, 50));
                break;
            case 2:
                appendEntry(place);
                break;
            case 3:
                content(place, random.nextLong(), some(1, 8));
                break;
            case 4:
                does(place, some(0, 3), some(-1, 7));
                break;
            case 5:
                // Most of what PLACES do keeps WANTS from being DONE, so it is ended often.
                int kind = random.nextInt(4);
                does(place, kind, kind == 1 ? NONE : 0);
                break;
            case 6:
            case 7:
                cut(place, some(0, 9), some(0, random.nextBoolean() ? 5 : 100));
                break;
            case 8:
                want(random.nextInt(8) == 0 ? random.nextInt() : real.digest(random.nextInt(8)));
                break;
            default:
                from(some(0, 9), some(0, 15));
                break;
        }
    }

    private void credential(int host, boolean on) {
        same(written("credential", host, on ? 1 : 0), real.credential(host, on), model.credential(host, on));
    }

    private void place(int host, int rate) {
        same(written("place", host, rate), real.place(host, rate), model.place(host, rate));
    }

    private void content(int place, long w, int n) {
        same(written("content", place, w, n), real.content(place, w, n), model.content(place, w, n));
    }

    /** A whole ENTRY: a .. d with no byte, d/b with one, or c/d/b, which may be wrong. */
    private void appendEntry(int place) {
        switch (random.nextInt(4)) {
            case 0:
                content(place, 0x03642F620107L, 6);
                break;
            case 1:
                content(place, 0x05632F642F620000L + (random.nextInt(20) == 0 ? 0x01 : 0), 7);
                break;
            default:
                content(place, 0x016100L + (random.nextInt(4) << 8), 3);
                break;
        }
    }

    private void does(int place, int kind, int which) {
        same(written("does", place, kind, which), real.does(place, kind, which), model.does(place, kind, which));
    }

    private void cut(int place, int times, int bytes) {
        same(written("cut", place, times, bytes), real.cut(place, times, bytes), model.cut(place, times, bytes));
    }

    private void want(int digest) {
        calls++;
        same(written("want", digest), real.want(digest), model.want(digest));
    }

    private void from(int want, int place) {
        same(written("from", want, place), real.from(want, place), model.from(want, place));
    }

    // ---- calls that go on, and calls that look

    private void go() {
        switch (random.nextInt(8)) {
            case 0:
                boolean on = random.nextInt(3) == 0;
                real.offLine(on);
                same("offLine", 0, model.offLine(on));
                break;
            case 1:
            case 2:
            case 3:
                int want = some(0, 9);
                same(written("begin", want), real.begin(want), model.begin(want));
                break;
            default:
                int n = some(0, random.nextInt(10) == 0 ? 50 : 3);
                same(written("tick", n), real.tick(n), model.tick(n));
                break;
        }
    }

    private void lookAtWants() {
        int want = some(0, 9);
        int what = some(0, 4);
        int k = some(0, random.nextBoolean() ? 1 : 5);
        switch (random.nextInt(4)) {
            case 0:
                int i = some(0, random.nextBoolean() ? 5 : 99);
                same(written("byteOf", want, i), real.byteOf(want, i), model.byteOf(want, i));
                break;
            case 1:
                same(written("unpack", want, k), real.unpack(want, k), model.unpack(want, k));
                break;
            default:
                same(written("about", want, what), real.about(want, what), model.about(want, what));
                break;
        }
    }

    private void look() {
        int i = some(0, 5);
        int what = some(0, 3);
        switch (random.nextInt(6)) {
            case 0:
                same(written("barred", i, what), real.barred(i, what), model.barred(i, what));
                break;
            case 1:
                same(written("came", i), real.came(i), model.came(i));
                break;
            case 2:
                same(written("lacks", i), real.lacks(i), model.lacks(i));
                break;
            case 3:
                same(written("sent", i), real.sent(i), model.sent(i));
                break;
            case 4:
                same(written("digest", i), real.digest(i), model.digest(i));
                break;
            default:
                same(written("file", i, what), real.file(i, what), model.file(i, what));
                break;
        }
    }
}
