import java.util.Random;

/** Runs of up to 512 calls with arguments of all kinds: no call may throw, and no answer may leave its range. */
public final class FetchRulesWild {
    private static final int RUNS = 4000;
    // What furnishes an object and what is asked at the end count among its 512 calls too.
    private static final int CALLS = 400;
    private static final int[] EXTREMES = {Integer.MIN_VALUE, -1000, -2, -1, 17, 51, 101, Integer.MAX_VALUE};

    private static int wrong = 0;

    private static void within(int run, String call, long got, long least, long most) {
        if (got < least || got > most) {
            wrong++;
            System.out.println("run " + run + ": " + call + " answered " + got + ", due is " + least + " .. " + most);
        }
    }

    /** Mostly 0 .. bound - 1, so that runs come far; now and then something else. */
    private static int some(Random random, int bound) {
        return random.nextInt(20) == 0 ? EXTREMES[random.nextInt(EXTREMES.length)] : random.nextInt(bound);
    }

    public static void main(String[] args) {
        long done = 0;
        long failed = 0;
        long tellings = 0;
        long unpacked = 0;
        for (int run = 0; run < RUNS; run++) {
            FetchRules x = new FetchRules(run % 8 - 1);
            long[] answers = play(run, x);
            long[] again = play(-1 - run, new FetchRules(run % 8 - 1));
            for (int i = 0; i < CALLS; i++) {
                if (answers[i] != again[i]) {
                    wrong++;
                    System.out.println("run " + run + ": call " + i + " answered " + answers[i] + " and then " + again[i]);
                }
            }
            for (int want = 0; want < 10; want++) {
                done += x.about(want, 0) == 3 ? 1 : 0;
                failed += x.about(want, 0) == 4 ? 1 : 0;
            }
            tellings += x.barred(0, 0) != -1 ? 1 : 0;
            unpacked += x.file(0, 0) != -1 ? 1 : 0;
        }
        // Runs that never come that far would look at nothing.
        within(RUNS, "WANTS that are DONE", done, RUNS, Long.MAX_VALUE);
        within(RUNS, "WANTS that FAILED", failed, RUNS, Long.MAX_VALUE);
        within(RUNS, "runs with a BARRED PLACE", tellings, RUNS / 10, Long.MAX_VALUE);
        within(RUNS, "runs with a FILE", unpacked, RUNS / 10, Long.MAX_VALUE);
        System.out.println(wrong == 0 ? "no call went astray" : wrong + " answers are not as due");
        if (wrong != 0) {
            System.exit(1);
        }
    }

    /** Plays a run by its number; the same run under -1 less its number. */
    private static long[] play(int number, FetchRules x) {
        Random random = new Random(number < 0 ? -1 - number : number);
        furnish(x, random);
        long[] answers = new long[CALLS];
        for (int i = 0; i < CALLS; i++) {
            answers[i] = random.nextInt(3) == 0 ? build(number, x, random) : use(number, x, random);
        }
        return answers;
    }

    /** PLACES with ARCHIVES and WANTS of these, since arguments by chance alone rarely fit one another. */
    private static void furnish(FetchRules x, Random random) {
        for (int i = 0; i < 6; i++) {
            x.place(random.nextInt(8), 1 + random.nextInt(50));
            for (int j = random.nextInt(4); j >= 0; j--) {
                appendEntry(x, i, random);
            }
            x.want(x.digest(i));
            x.from(i, random.nextInt(6));
            x.from(i, i);
        }
    }

    /** A whole ENTRY: a .. d with no byte, or d/b with one. */
    private static boolean appendEntry(FetchRules x, int place, Random random) {
        return random.nextBoolean()
            ? x.content(place, 0x016100L + (random.nextInt(4) << 8), 3)
            : x.content(place, 0x03642F620107L, 6);
    }

    private static long build(int run, FetchRules x, Random random) {
        switch (random.nextInt(9)) {
            case 0:
                return x.credential(some(random, 8), random.nextBoolean()) ? 1 : 0;
            case 1: {
                int place = x.place(some(random, 8), some(random, 51));
                within(run, "place", place, -1, 15);
                return place;
            }
            case 2:
                return appendEntry(x, some(random, 16), random) ? 1 : 0;
            case 3:
                return x.content(some(random, 16), random.nextLong(), some(random, 9)) ? 1 : 0;
            case 4:
                return x.does(some(random, 16), some(random, 4), some(random, 16) - 1) ? 1 : 0;
            case 5:
                return x.does(some(random, 16), random.nextInt(4), random.nextBoolean() ? -1 : 0) ? 1 : 0;
            case 6:
                return x.cut(some(random, 16), some(random, 10), some(random, 101)) ? 1 : 0;
            case 7: {
                int want = x.want(random.nextInt(8) == 0 ? random.nextInt() : x.digest(some(random, 16)));
                within(run, "want", want, -1, 9);
                return want;
            }
            default:
                return x.from(some(random, 10), some(random, 16)) ? 1 : 0;
        }
    }

    private static long use(int run, FetchRules x, Random random) {
        int answer;
        switch (random.nextInt(12)) {
            case 0:
                x.offLine(random.nextInt(4) == 0);
                return 0;
            case 1:
                answer = x.begin(some(random, 10));
                within(run, "begin", answer, -1, 4);
                return answer;
            case 2:
                answer = x.tick(some(random, 6));
                within(run, "tick", answer, -1, 10);
                return answer;
            case 3: {
                int what = some(random, 5);
                answer = x.about(some(random, 10), what);
                long most = what == 0 ? 4 : what == 1 ? 15 : what == 2 ? 100 : 50L * CALLS;
                within(run, "about", answer, -1, most);
                return answer;
            }
            case 4:
                answer = x.byteOf(some(random, 10), some(random, 100));
                within(run, "byteOf", answer, -1, 255);
                return answer;
            case 5:
                answer = x.barred(some(random, 20), some(random, 2));
                within(run, "barred", answer, -1, 15);
                return answer;
            case 6:
                return x.came(some(random, 20));
            case 7:
                answer = x.lacks(some(random, 10));
                within(run, "lacks", answer, -1, 9);
                return answer;
            case 8:
                answer = x.sent(some(random, 8));
                within(run, "sent", answer, 0, 4L * 10 * 50 * CALLS);
                return answer;
            case 9:
                answer = x.unpack(some(random, 10), some(random, 6));
                within(run, "unpack", answer == -1000 ? -101 : answer, -101, 33);
                return answer;
            case 10:
                answer = x.file(some(random, 33), some(random, 4));
                within(run, "file", answer, -1, 100);
                return answer;
            default:
                return x.digest(some(random, 16));
        }
    }
}
