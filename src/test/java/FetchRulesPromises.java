/** For each promise of the document: ordinary inputs, the edges that it names, and wrong inputs. */
public final class FetchRulesPromises extends Checks {
    public static void main(String[] args) {
        promise1();
        promise2();
        promise3();
        promise4();
        promise5();
        promise5Leading();
        promise5Lying();
        promise6();
        promise6Shared();
        promise7();
        promise8();
        promise9();
        promise10();
        promise11();
        promise11Kept();
        promise12();
        promise12Rates();
        promise12Faltering();
        promise12GivenUp();
        promise13();
        promise13BytesOfFailed();
        promise14();
        promise15And16();
        promise15Led();
        promise15MostTellings();
        promise17();
        promise18();
        promise18Leading();
        promise19();
        promise19Ill();
        promise19Paths();
        promise19Stripped();
        promise20();
        promise20Latest();
        promise20Most();
        end();
    }

    /** How many times a WANT comes to WAIT until it is GIVEN UP, and the clock at which it has FAILED. */
    private static int[] waitsBeforeFailing(int retries) {
        FetchRules x = new FetchRules(retries);
        int place = placeWith(x, 0, 50, 1, 2, 3);
        x.cut(place, 9, 0);
        int want = begunFrom(x, 99, place);
        int waits = 0;
        int till = 0;
        for (int clock = 1; clock <= 100; clock++) {
            int left = x.tick(1);
            if (left == 0) {
                return new int[] {waits, clock};
            }
            if (x.about(want, 0) == WAITS && x.about(want, 3) != till) {
                till = x.about(want, 3);
                waits++;
            }
        }
        return new int[] {waits, NONE};
    }

    private static void promise1() {
        heldTo = "promise 1";
        FetchRules x = new FetchRules(3);
        due("digest(0)", x.digest(0), 0);
        due("cut(0, 1, 1)", x.cut(0, 1, 1), false);
        due("begin(0)", x.begin(0), NONE);
        due("about(0, 0)", x.about(0, 0), NONE);
        due("tick(0)", x.tick(0), 0);
        due("lacks(0)", x.lacks(0), NONE);
        due("barred(0, 0)", x.barred(0, 0), NONE);
        due("file(0, 0)", x.file(0, 0), NONE);
        for (int host = 0; host < 8; host++) {
            due("sent of a new object", x.sent(host), 0);
        }
        due("want(0)", x.want(0), 0);
        due("nothing KEPT, not even the empty row", x.begin(0), FAILED);
        due("not OFF-LINE", x.lacks(0), NONE);

        int[] given = {LOW, -1, 0, 1, 2, 3, 4, 5, 6, HIGH};
        int[] counts = {0, 0, 0, 1, 2, 3, 4, 5, 5, 5};
        for (int i = 0; i < given.length; i++) {
            int[] seen = waitsBeforeFailing(given[i]);
            due("waits with retries " + given[i], seen[0], counts[i]);
            due("clock of failing with retries " + given[i], seen[1], 1 << counts[i]);
        }
    }

    private static void promise2() {
        heldTo = "promise 2";
        FetchRules x = new FetchRules(0);
        due("credential(-1, true)", x.credential(-1, true), false);
        due("credential(8, true)", x.credential(8, true), false);
        due("credential(LOW, true)", x.credential(LOW, true), false);
        due("credential(HIGH, false)", x.credential(HIGH, false), false);
        for (int host = 0; host < 8; host++) {
            due("credential on", x.credential(host, true), true);
            int place = placeWith(x, host, 50, host);
            x.does(place, 2, 1);
            int want = begunFrom(x, digestOf(host), place);
            x.tick(1);
            due("a WANT with a CREDENTIAL", x.about(want, 0), DONE);
        }
        due("credential off", x.credential(7, false), true);
        int bare = placeWith(x, 7, 50, 77);
        x.does(bare, 2, 1);
        int refused = begunFrom(x, digestOf(77), bare);
        x.tick(1);
        due("a WANT without a CREDENTIAL", x.about(refused, 0), FAILED);
        due("sent(7)", x.sent(7), 1);
        x.credential(7, true);
        x.begin(refused);
        x.tick(1);
        due("with one again", x.about(refused, 0), DONE);
    }

    private static void promise3() {
        heldTo = "promise 3";
        FetchRules x = new FetchRules(0);
        due("place(-1, 1)", x.place(-1, 1), NONE);
        due("place(8, 1)", x.place(8, 1), NONE);
        due("place(LOW, 1)", x.place(LOW, 1), NONE);
        due("place(0, 0)", x.place(0, 0), NONE);
        due("place(0, -1)", x.place(0, -1), NONE);
        due("place(0, 51)", x.place(0, 51), NONE);
        due("place(0, HIGH)", x.place(0, HIGH), NONE);
        for (int i = 0; i < 16; i++) {
            due("place", x.place(i % 8, i % 2 == 0 ? 1 : 50), i);
        }
        due("the 17th place", x.place(0, 1), NONE);
        due("digest of an empty one", x.digest(15), 0);
        int want = begunFrom(x, 0, 15);
        x.tick(1);
        due("an empty one that does nothing gives the empty row", x.about(want, 0), DONE);
        due("and no bytes", x.about(want, 2), 0);
    }

    private static void promise4() {
        heldTo = "promise 4";
        FetchRules x = new FetchRules(0);
        int place = x.place(0, 50);
        long w = 0xF1F2030405060708L;
        due("content(1, ..)", x.content(1, w, 1), false);
        due("content(-1, ..)", x.content(-1, w, 1), false);
        due("n 0", x.content(place, w, 0), false);
        due("n 9", x.content(place, w, 9), false);
        due("n -1", x.content(place, w, -1), false);
        due("n HIGH", x.content(place, w, HIGH), false);
        due("none came", x.digest(place), 0);
        due("n 3", x.content(place, w, 3), true);
        due("the lowest, the highest first", x.digest(place), digestOf(6, 7, 8));
        due("n 8", x.content(place, w, 8), true);
        due("behind the others", x.digest(place), digestOf(6, 7, 8, 0xF1, 0xF2, 3, 4, 5, 6, 7, 8));
        due("n 1", x.content(place, -1L, 1), true);
        int[] row = {6, 7, 8, 0xF1, 0xF2, 3, 4, 5, 6, 7, 8, 255};
        due("a byte is 255 at most", x.digest(place), digestOf(row));
        int want = begunFrom(x, digestOf(row), place);
        x.tick(1);
        for (int i = 0; i < row.length; i++) {
            due("byteOf " + i, x.byteOf(want, i), row[i]);
        }

        FetchRules full = new FetchRules(0);
        int p = full.place(0, 50);
        for (int i = 0; i < 12; i++) {
            due("content up to 96", full.content(p, i, 8), true);
        }
        int before = full.digest(p);
        due("5 more than there is room for", full.content(p, 0x0102030405L, 5), false);
        due("and none came", full.digest(p), before);
        due("the last 4", full.content(p, 0x01020304L, 4), true);
        due("one beyond 100", full.content(p, 9, 1), false);
        int q = full.place(0, 50);
        due("another has its own room", full.content(q, 9, 1), true);
        due("its digest", full.digest(q), digestOf(9));
    }

    private static void promise5() {
        heldTo = "promise 5";
        FetchRules x = new FetchRules(0);
        int a = placeWith(x, 0, 50, 1);
        int b = placeWith(x, 0, 50, 2);
        due("no such place", x.does(2, 0, 1), false);
        due("no such place", x.does(-1, 0, 1), false);
        due("no such kind", x.does(a, 4, 1), false);
        due("no such kind", x.does(a, -1, 1), false);
        due("no such kind", x.does(a, HIGH, 0), false);
        due("to no such place", x.does(a, 1, 2), false);
        due("to no such place", x.does(a, 1, -2), false);
        due("to no such place", x.does(a, 1, LOW), false);
        int want = begunFrom(x, digestOf(1), a);
        x.tick(1);
        due("what was refused does nothing", x.about(want, 0), DONE);

        due("GONE by any number but 0", x.does(b, 0, LOW), true);
        int gone = begunFrom(x, digestOf(2), b);
        x.tick(1);
        due("GONE", x.about(gone, 0), FAILED);
        due("a GONE one isn't BARRED", x.barred(0, 1), NONE);
        due("not GONE", x.does(b, 0, 0), true);
        x.begin(gone);
        x.tick(1);
        due("not GONE any more", x.about(gone, 0), DONE);

        int c = placeWith(x, 1, 50, 3);
        due("WANTS by any number but 0", x.does(c, 2, -7), true);
        int refused = begunFrom(x, digestOf(3), c);
        x.tick(1);
        due("WANTS a CREDENTIAL", x.about(refused, 0), FAILED);
        due("a refusal bars none", x.barred(0, 1), NONE);
        due("WANTS none", x.does(c, 2, 0), true);
        x.begin(refused);
        x.tick(1);
        due("WANTS none any more", x.about(refused, 0), DONE);
    }

    private static void promise5Leading() {
        heldTo = "promise 5, LEADS";
        FetchRules x = new FetchRules(0);
        int[] p = new int[6];
        for (int i = 0; i < 6; i++) {
            p[i] = placeWith(x, i, 50, 10 + i);
        }
        for (int i = 0; i < 4; i++) {
            due("leads", x.does(p[i], 1, p[i + 1]), true);
        }
        int want = begunFrom(x, digestOf(14), p[1]);
        x.tick(1);
        due("three times is not TOO FAR", x.about(want, 0), DONE);
        due("the byte of the last", x.byteOf(want, 0), 14);
        int tooFar = begunFrom(x, digestOf(24), p[0], p[5]);
        due("its place", x.about(tooFar, 1), p[0]);
        x.tick(1);
        due("the fourth time is TOO FAR", x.about(tooFar, 1), p[5]);
        due("TOO FAR bars none", x.barred(0, 1), NONE);

        x.does(p[3], 0, 1);
        int gone = begunFrom(x, digestOf(25), p[1], p[0]);
        x.tick(1);
        due("a GONE one that is led to", x.about(gone, 1), p[0]);
        x.does(p[3], 0, 0);
        due("to none", x.does(p[1], 1, NONE), true);
        int plain = begunFrom(x, digestOf(11), p[0]);
        x.tick(1);
        due("the one that LEADS no more gives", x.about(plain, 0), DONE);

        FetchRules y = new FetchRules(0);
        int self = placeWith(y, 0, 50, 1);
        due("to itself it can", y.does(self, 1, self), true);
        int round = begunFrom(y, digestOf(1), self);
        due("tick", y.tick(1), 0);
        due("to itself is TOO FAR", y.about(round, 0), FAILED);
        y.does(self, 1, 5);
        y.begin(round);
        y.tick(1);
        due("a refused LEAD changes none", y.about(round, 0), FAILED);

        FetchRules z = new FetchRules(0);
        int first = placeWith(z, 0, 1, 1);
        int second = placeWith(z, 0, 2, 7, 8, 9);
        z.does(first, 1, second);
        z.does(first, 3, 1);
        int led = begunFrom(z, digestOf(7, 8, 9), first);
        z.tick(1);
        due("RATE of the one asked last", z.about(led, 2), 2);
        due("its PLACE is its own", z.about(led, 1), first);
        z.tick(1);
        due("only the one asked last can LIE", z.about(led, 0), DONE);
    }

    private static void promise5Lying() {
        heldTo = "promise 5, LIES";
        FetchRules x = new FetchRules(0);
        int liar = placeWith(x, 0, 1, 4, 4);
        due("LIES", x.does(liar, 3, 9), true);
        due("digest without LYING", x.digest(liar), digestOf(4, 4));
        int want = begunFrom(x, digestOf(5, 4), liar);
        x.tick(2);
        due("the first byte alone is xored with 1", x.about(want, 0), DONE);
        due("byte 0", x.byteOf(want, 0), 5);
        due("byte 1", x.byteOf(want, 1), 4);
        int empty = x.place(0, 1);
        x.does(empty, 3, 1);
        int none = begunFrom(x, 0, empty);
        x.tick(1);
        due("an empty one has none to LIE with", x.about(none, 0), DONE);
        due("LIES no more", x.does(liar, 3, 0), true);
        int honest = begunFrom(x, digestOf(4, 4), liar);
        x.tick(2);
        due("LIES no more", x.about(honest, 0), DONE);
    }

    private static void promise6() {
        heldTo = "promise 6";
        FetchRules x = new FetchRules(5);
        int p = placeWith(x, 0, 3, upTo(20));
        due("no such place", x.cut(1, 1, 1), false);
        due("no such place", x.cut(-1, 1, 1), false);
        due("times -1", x.cut(p, -1, 1), false);
        due("times 10", x.cut(p, 10, 1), false);
        due("bytes -1", x.cut(p, 1, -1), false);
        due("bytes 101", x.cut(p, 1, 101), false);
        due("times HIGH", x.cut(p, HIGH, LOW), false);
        int want = begunFrom(x, digestOf(upTo(20)), p);
        x.tick(1);
        due("what was refused cuts none", x.about(want, 0), FETCHES);
        due("and RATE bytes came", x.about(want, 2), 3);
        due("cut(p, 9, 0)", x.cut(p, 9, 0), true);
        x.tick(1);
        due("CUT to none", x.about(want, 2), 3);
        due("and it FALTERS", x.about(want, 0), WAITS);
        due("cut(p, 1, 100)", x.cut(p, 1, 100), true);
        x.tick(1);
        due("RATE still counts", x.about(want, 2), 6);
        due("CUT without loss FALTERS too", x.about(want, 0), WAITS);
        due("till", x.about(want, 3), 5);
        x.tick(2);
        due("CUT no more", x.about(want, 2), 9);
        due("FETCHES", x.about(want, 0), FETCHES);
        x.cut(p, 5, 1);
        due("cut(p, 0, 0)", x.cut(p, 0, 0), true);
        x.tick(1);
        due("CUT 0 times is not CUT", x.about(want, 2), 12);
        x.tick(2);
        due("two bytes lack", x.about(want, 2), 18);
        x.cut(p, 1, 2);
        x.tick(1);
        due("CUT but with all: no FALTERING", x.about(want, 0), DONE);
    }

    private static void promise6Shared() {
        heldTo = "promise 6, answers";
        FetchRules x = new FetchRules(5);
        int p = placeWith(x, 0, 50, upTo(10));
        int lead = x.place(0, 50);
        x.does(lead, 1, p);
        x.cut(lead, 9, 0);
        x.cut(p, 1, 4);
        int first = begunFrom(x, digestOf(upTo(10)), lead);
        int second = begunFrom(x, digestOf(upTo(10)), p);
        x.tick(1);
        due("the first answer is CUT", x.about(first, 2), 4);
        due("and FALTERS", x.about(first, 0), WAITS);
        due("the next one, to another WANT, isn't", x.about(second, 0), DONE);
        x.tick(1);
        due("one that LEADS on gives no answer to cut", x.about(first, 0), DONE);

        FetchRules y = new FetchRules(0);
        int q = placeWith(y, 0, 50, 1, 2);
        y.cut(q, 1, 1);
        y.does(q, 0, 1);
        int want = begunFrom(y, digestOf(1, 2), q);
        y.tick(1);
        y.does(q, 0, 0);
        y.begin(want);
        y.tick(1);
        due("being GONE was no answer", y.about(want, 0), FAILED);
        y.begin(want);
        y.tick(1);
        due("the next one is whole", y.about(want, 0), DONE);

        FetchRules z = new FetchRules(3);
        int empty = z.place(0, 50);
        z.cut(empty, 1, 0);
        int none = begunFrom(z, 0, empty);
        z.tick(1);
        due("an empty CONTENT can't be CUT short", z.about(none, 0), DONE);
        z.content(empty, 5, 1);
        int five = begunFrom(z, digestOf(5), empty);
        z.tick(1);
        due("but that was an answer", z.about(five, 0), DONE);
    }

    private static void promise7() {
        heldTo = "promise 7";
        FetchRules x = new FetchRules(0);
        due("none such", x.digest(0), 0);
        int p = x.place(0, 1);
        due("empty", x.digest(p), 0);
        x.content(p, 255, 1);
        due("of 255", x.digest(p), -1143631584);
        due("none such", x.digest(1), 0);
        due("none such", x.digest(-1), 0);
        due("none such", x.digest(LOW), 0);
        int q = x.place(0, 1);
        x.content(q, 243527952842033153L, 8);
        x.content(q, 7133705525696528649L, 8);
        due("of 16 bytes", x.digest(q), 1820070820);
        int zeros = x.place(0, 1);
        x.content(zeros, 0, 8);
        due("of zeros", x.digest(zeros), 0);
    }

    private static void promise8() {
        heldTo = "promise 8";
        FetchRules x = new FetchRules(0);
        for (int i = 0; i < 10; i++) {
            due("want", x.want(i == 0 ? LOW : i), i);
            due("IDLE", x.about(i, 0), IDLE);
            due("no PLACE", x.about(i, 1), NONE);
            due("no bytes", x.about(i, 2), 0);
            due("no wait", x.about(i, 3), NONE);
            due("no TURNS", x.about(i, 4), 0);
        }
        due("the 11th", x.want(5), NONE);
        due("IDLE ones don't FETCH", x.tick(1), 0);
    }

    private static void promise9() {
        heldTo = "promise 9";
        FetchRules x = new FetchRules(0);
        for (int i = 0; i < 8; i++) {
            placeWith(x, 0, 50, i);
        }
        int want = x.want(digestOf(5));
        due("no such want", x.from(1, 0), false);
        due("no such want", x.from(-1, 0), false);
        due("no such place", x.from(want, 8), false);
        due("no such place", x.from(want, -1), false);
        due("no such place", x.from(want, LOW), false);
        int[] order = {3, 1, 0, 2, 7, 5};
        for (int place : order) {
            due("from", x.from(want, place), true);
            due("it is there", x.from(want, place), false);
        }
        due("it is there", x.from(want, 3), false);
        due("the seventh", x.from(want, 4), false);
        for (int place : order) {
            x.does(place, 0, place == 5 ? 0 : 1);
        }
        x.begin(want);
        for (int place : order) {
            due("tried in order", x.about(want, 1), place);
            x.tick(1);
        }
        due("the last had it", x.about(want, 0), DONE);

        int other = wantFrom(x, 99, 6);
        x.begin(other);
        due("FETCHES: not IDLE", x.from(other, 4), false);
        x.tick(1);
        due("FAILED", x.about(other, 0), FAILED);
        due("FAILED: not IDLE", x.from(other, 4), false);
        int done = begunFrom(x, digestOf(5));
        due("DONE: not IDLE", x.from(done, 4), false);

        FetchRules y = new FetchRules(1);
        int a = placeWith(y, 0, 1, 1);
        int b = placeWith(y, 0, 1, 1);
        y.cut(a, 1, 0);
        int waiting = begunFrom(y, digestOf(1), a);
        y.tick(1);
        due("it WAITS", y.about(waiting, 0), WAITS);
        due("WAITS: not IDLE", y.from(waiting, b), false);
    }

    private static void promise10() {
        heldTo = "promise 10";
        FetchRules x = new FetchRules(0);
        int p = placeWith(x, 0, 1, 1, 2);
        int q = placeWith(x, 0, 1, 3, 4);
        int fetching = begunFrom(x, digestOf(1, 2), p);
        x.offLine(true);
        due("it counts for BEGINNING alone", x.tick(2), 0);
        due("DONE", x.about(fetching, 0), DONE);
        int lacking = wantFrom(x, digestOf(3, 4), q);
        due("OFF-LINE", x.begin(lacking), FAILED);
        due("what is KEPT is had OFF-LINE", x.begin(wantFrom(x, digestOf(1, 2))), DONE);
        x.offLine(false);
        due("not OFF-LINE", x.begin(lacking), FETCHES);
        x.tick(2);
        due("DONE", x.about(lacking, 0), DONE);
    }

    private static void promise11() {
        heldTo = "promise 11";
        FetchRules x = new FetchRules(2);
        due("none such", x.begin(0), NONE);
        int lone = x.want(1);
        due("no PLACES", x.begin(lone), FAILED);
        due("again", x.begin(lone), FAILED);
        due("none such", x.begin(1), NONE);
        due("none such", x.begin(-1), NONE);
        due("none such", x.begin(HIGH), NONE);
        int p = placeWith(x, 0, 1, 1, 2);
        int want = wantFrom(x, digestOf(1, 2), p);
        due("begin", x.begin(want), FETCHES);
        due("no bytes before the clock goes on", x.about(want, 2), 0);
        due("it FETCHES", x.begin(want), NONE);
        x.cut(p, 1, 1);
        x.tick(1);
        due("WAITS", x.about(want, 0), WAITS);
        due("it WAITS", x.begin(want), NONE);
        due("and WAITS on", x.about(want, 0), WAITS);
        x.tick(1);
        due("DONE", x.about(want, 0), DONE);
        due("DONE may begin again", x.begin(want), DONE);
        due("its TURNS stay", x.about(want, 4), 2);

        FetchRules y = new FetchRules(0);
        int liar = placeWith(y, 0, 50, 1);
        int gone = placeWith(y, 0, 50, 2);
        int good = placeWith(y, 0, 50, 9);
        y.does(liar, 3, 1);
        y.does(gone, 0, 1);
        int first = begunFrom(y, digestOf(1), liar, gone);
        y.tick(2);
        due("FAILED", y.about(first, 0), FAILED);
        due("FAILED may begin again", y.begin(first), FETCHES);
        due("at the first that isn't BARRED", y.about(first, 1), gone);
        due("with no bytes", y.about(first, 2), 0);
        int second = wantFrom(y, digestOf(9), liar, good);
        y.begin(second);
        due("a BARRED one is BARRED for others", y.about(second, 1), good);
        int third = wantFrom(y, digestOf(8), liar);
        due("only BARRED ones", y.begin(third), FAILED);
    }

    private static void promise11Kept() {
        heldTo = "promise 11, KEPT";
        FetchRules x = new FetchRules(0);
        int p = placeWith(x, 0, 50, 0);
        int q = placeWith(x, 0, 50, 0, 0);
        int one = begunFrom(x, 0, p);
        int two = begunFrom(x, 0, q);
        x.tick(1);
        due("DONE", x.about(one, 0), DONE);
        due("DONE", x.about(two, 0), DONE);
        due("what came is the WANT's", x.about(two, 2), 2);
        int three = begunFrom(x, 0, q);
        due("the KEPT one stays the first", x.about(three, 2), 1);
        due("without a TURN", x.about(three, 4), 0);
        due("begin again", x.begin(two), DONE);
        due("with what is KEPT", x.about(two, 2), 1);
        due("byteOf", x.byteOf(two, 1), NONE);
        x.content(p, 5, 1);
        due("what is KEPT doesn't change with its PLACE", x.begin(one), DONE);
        due("its bytes", x.about(one, 2), 1);

        FetchRules y = new FetchRules(0);
        int[] wants = new int[10];
        for (int i = 0; i < 10; i++) {
            wants[i] = begunFrom(y, digestOf(i + 1, i), placeWith(y, 0, 50, i + 1, i));
        }
        due("all ten", y.tick(1), 0);
        y.offLine(true);
        for (int i = 0; i < 10; i++) {
            due("KEPT", y.begin(wants[i]), DONE);
            due("its first byte", y.byteOf(wants[i], 0), i + 1);
        }

        FetchRules v = new FetchRules(0);
        begunFrom(v, digestOf(8, 9), placeWith(v, 0, 50, 8, 9));
        v.tick(1);
        int sharing = v.want(digestOf(8, 9));
        due("a WANT without PLACES has what is KEPT", v.begin(sharing), DONE);
        due("byte 0", v.byteOf(sharing, 0), 8);
        due("byte 1", v.byteOf(sharing, 1), 9);
        due("no byte 2", v.byteOf(sharing, 2), NONE);

        FetchRules z = new FetchRules(0);
        int liar = placeWith(z, 0, 50, 4);
        z.does(liar, 3, 1);
        begunFrom(z, digestOf(4), liar);
        z.tick(1);
        due("what came wrong isn't KEPT", z.begin(z.want(digestOf(5))), FAILED);
    }

    private static void promise12() {
        heldTo = "promise 12";
        FetchRules x = new FetchRules(0);
        int p = placeWith(x, 0, 1, upTo(60));
        int want = begunFrom(x, digestOf(upTo(60)), p);
        due("tick(-1)", x.tick(-1), NONE);
        due("tick(51)", x.tick(51), NONE);
        due("tick(LOW)", x.tick(LOW), NONE);
        due("tick(HIGH)", x.tick(HIGH), NONE);
        due("tick(0)", x.tick(0), 1);
        due("no TURN", x.about(want, 4), 0);
        due("tick(50)", x.tick(50), 1);
        due("50 TURNS", x.about(want, 4), 50);
        due("50 bytes", x.about(want, 2), 50);
        int idle = x.want(1);
        due("tick(9)", x.tick(9), 1);
        due("tick(1)", x.tick(1), 0);
        due("DONE", x.about(want, 0), DONE);
        due("IDLE", x.about(idle, 0), IDLE);
        x.tick(5);
        due("no TURN when DONE", x.about(want, 4), 60);

        FetchRules y = new FetchRules(1);
        int a = placeWith(y, 0, 1, 1, 2, 3);
        int b = placeWith(y, 0, 1, 4, 5, 6);
        y.cut(a, 9, 0);
        int waits = begunFrom(y, 7, a);
        int fetches = begunFrom(y, digestOf(4, 5, 6), b);
        due("FETCHES and WAITS count", y.tick(1), 2);
        due("WAITS", y.about(waits, 0), WAITS);
        due("FETCHES", y.about(fetches, 0), FETCHES);
        due("given up", y.tick(1), 1);
        due("DONE", y.tick(1), 0);
    }

    private static void promise12Rates() {
        heldTo = "promise 12, TURNS";
        FetchRules x = new FetchRules(0);
        int p = placeWith(x, 0, 50, upTo(100));
        int want = begunFrom(x, digestOf(upTo(100)), p);
        x.tick(1);
        due("RATE bytes", x.about(want, 2), 50);
        due("not all: FETCHES", x.about(want, 0), FETCHES);
        x.tick(1);
        due("all: DONE in that TURN", x.about(want, 0), DONE);
        due("100 bytes", x.about(want, 2), 100);

        FetchRules y = new FetchRules(0);
        int a = placeWith(y, 0, 4, 1, 2, 3, 4, 5, 6);
        int b = placeWith(y, 0, 50, 9, 9);
        int c = placeWith(y, 0, 50, 9, 9, 9, 9, 8);
        int more = begunFrom(y, digestOf(1, 2, 3, 4), a);
        int behind = begunFrom(y, digestOf(1, 2, 3, 4, 8), c);
        y.does(c, 1, a);
        y.tick(1);
        y.does(a, 1, b);
        y.does(c, 1, NONE);
        y.tick(1);
        due("more bytes than the CONTENT: looked at", y.about(more, 0), DONE);
        due("with what it had", y.about(more, 2), 4);
        due("bytes come behind those it has", y.about(behind, 0), DONE);
        due("its fifth", y.byteOf(behind, 4), 8);

        FetchRules z = new FetchRules(0);
        int g = placeWith(z, 0, 1, 1, 2);
        int grown = begunFrom(z, digestOf(1, 2, 3), g);
        z.tick(1);
        z.content(g, 3, 1);
        z.tick(2);
        due("CONTENT that grows meanwhile counts", z.about(grown, 0), DONE);
    }

    private static void promise12Faltering() {
        heldTo = "promise 12, FALTERING";
        FetchRules x = new FetchRules(5);
        int p = placeWith(x, 0, 50, upTo(10));
        int q = placeWith(x, 0, 50, upTo(9));
        x.cut(p, 9, 1);
        x.cut(q, 9, 1);
        int want = begunFrom(x, digestOf(upTo(9)), p, q);
        int[] tills = {2, 4, 8, 16, 32};
        int clock = 0;
        for (int i = 0; i < 5; i++) {
            x.tick(i == 0 ? 1 : tills[i - 1] - clock);
            clock = i == 0 ? 1 : tills[i - 1];
            due("WAITS", x.about(want, 0), WAITS);
            due("till", x.about(want, 3), tills[i]);
            due("bytes gone on with", x.about(want, 2), i + 1);
            due("its PLACE", x.about(want, 1), p);
            due("TURNS", x.about(want, 4), i + 1);
        }
        x.tick(15);
        due("WAITS at 31", x.about(want, 0), WAITS);
        due("no TURN while it WAITS", x.about(want, 4), 5);
        x.tick(1);
        due("the sixth FALTERING: GIVEN UP", x.about(want, 0), FETCHES);
        due("the next PLACE", x.about(want, 1), q);
        due("with no bytes", x.about(want, 2), 0);
        due("not with a TURN in that turn of the CLOCK", x.about(want, 4), 6);
        due("till none", x.about(want, 3), NONE);
        due("FALTERING bars none", x.barred(0, 0), NONE);
        x.tick(1);
        due("at another PLACE it WAITS from 1 on", x.about(want, 3), 34);
        x.tick(1);
        due("then 2", x.about(want, 3), 36);
        x.cut(q, 0, 0);
        x.tick(2);
        due("DONE", x.about(want, 0), DONE);
        due("bytes in order", x.byteOf(want, 8), 9);

        FetchRules y = new FetchRules(1);
        int r = placeWith(y, 0, 50, 1, 2, 3);
        y.cut(r, 9, 0);
        int again = begunFrom(y, digestOf(1, 2, 3), r);
        y.tick(2);
        due("FAILED", y.about(again, 0), FAILED);
        y.begin(again);
        y.tick(1);
        due("a new BEGINNING may FALTER anew", y.about(again, 0), WAITS);
        due("from 1 on", y.about(again, 3), 4);

        FetchRules z = new FetchRules(2);
        int s = placeWith(z, 0, 1, 1, 2, 3, 4);
        z.cut(s, 1, 1);
        int mixed = begunFrom(z, digestOf(1, 2, 3, 4), s);
        z.tick(2);
        z.cut(s, 1, 1);
        z.tick(1);
        due("a whole answer between doesn't start the waits anew", z.about(mixed, 3), 5);
    }

    private static void promise12GivenUp() {
        heldTo = "promise 12, GIVEN UP";
        FetchRules x = new FetchRules(0);
        int first = placeWith(x, 0, 1, 1, 2);
        int liar = placeWith(x, 0, 50, 3, 3);
        int good = placeWith(x, 0, 50, 5, 6);
        x.does(liar, 3, 1);
        int early = begunFrom(x, digestOf(3, 3), liar);
        int want = begunFrom(x, digestOf(5, 6), first, liar, good);
        x.tick(1);
        due("early FAILED", x.about(early, 0), FAILED);
        x.tick(1);
        due("what came in pieces is BARRED too", x.barred(1, 1), first);
        due("a BARRED one is left out", x.about(want, 1), good);
        x.tick(1);
        due("DONE", x.about(want, 0), DONE);

        FetchRules y = new FetchRules(0);
        int bad = placeWith(y, 0, 1, 1, 2);
        int one = begunFrom(y, digestOf(7), bad);
        int two = begunFrom(y, digestOf(1, 2), bad);
        y.tick(2);
        due("BARRED by the first", y.about(one, 0), FAILED);
        due("the second FETCHES on from it", y.about(two, 0), DONE);
        int lead = placeWith(y, 0, 1);
        y.does(lead, 1, bad);
        y.content(bad, 3, 1);
        int led = begunFrom(y, digestOf(1, 2, 3), lead);
        y.tick(3);
        due("BARRED ones are asked if they are led to", y.about(led, 0), DONE);
    }

    private static void promise13() {
        heldTo = "promise 13";
        FetchRules x = new FetchRules(1);
        due("none such", x.about(0, 0), NONE);
        int p = placeWith(x, 0, 2, 1, 2, 3);
        int q = placeWith(x, 0, 2, 4);
        x.cut(q, 1, 0);
        int want = wantFrom(x, digestOf(1, 2, 3), q, p);
        due("none such", x.about(1, 0), NONE);
        due("none such", x.about(-1, 0), NONE);
        due("another what", x.about(want, 5), NONE);
        due("another what", x.about(want, -1), NONE);
        due("another what", x.about(want, HIGH), NONE);
        due("IDLE", x.about(want, 0), IDLE);
        due("no PLACE yet", x.about(want, 1), NONE);
        x.begin(want);
        due("FETCHES", x.about(want, 0), FETCHES);
        due("PLACE", x.about(want, 1), q);
        due("doesn't WAIT", x.about(want, 3), NONE);
        x.tick(1);
        due("WAITS", x.about(want, 0), WAITS);
        due("PLACE", x.about(want, 1), q);
        due("bytes", x.about(want, 2), 0);
        due("till", x.about(want, 3), 2);
        due("TURNS", x.about(want, 4), 1);
        x.tick(1);
        due("FETCHES", x.about(want, 0), FETCHES);
        due("PLACE", x.about(want, 1), p);
        x.tick(1);
        due("bytes", x.about(want, 2), 2);
        due("doesn't WAIT", x.about(want, 3), NONE);
        x.tick(1);
        due("DONE", x.about(want, 0), DONE);
        due("no PLACE", x.about(want, 1), NONE);
        due("bytes", x.about(want, 2), 3);
        due("doesn't WAIT", x.about(want, 3), NONE);
        due("TURNS", x.about(want, 4), 4);

        FetchRules y = new FetchRules(0);
        int gone = y.place(0, 1);
        y.does(gone, 0, 1);
        int failed = begunFrom(y, 1, gone);
        y.tick(1);
        due("FAILED", y.about(failed, 0), FAILED);
        due("no PLACE", y.about(failed, 1), NONE);
        due("doesn't WAIT", y.about(failed, 3), NONE);
        y.begin(failed);
        y.tick(1);
        due("TURNS in all", y.about(failed, 4), 2);
    }

    /** The document takes the bytes from a WANT that FETCHES anew, and from no other. */
    private static void promise13BytesOfFailed() {
        heldTo = "promise 13, bytes of one that FAILED";
        FetchRules x = new FetchRules(0);
        int p = placeWith(x, 0, 50, 1, 2, 3);
        x.cut(p, 1, 2);
        int want = begunFrom(x, digestOf(9), p);
        x.tick(1);
        due("FAILED", x.about(want, 0), FAILED);
        due("the bytes it has", x.about(want, 2), 2);
        due("a byte it has", x.byteOf(want, 1), 2);
        x.offLine(true);
        due("OFF-LINE", x.begin(want), FAILED);
        due("the bytes it has", x.about(want, 2), 2);
        x.offLine(false);
        due("FETCHES anew", x.begin(want), FETCHES);
        due("with no bytes", x.about(want, 2), 0);
    }

    private static void promise14() {
        heldTo = "promise 14";
        FetchRules x = new FetchRules(0);
        due("none such", x.byteOf(0, 0), NONE);
        int p = placeWith(x, 0, 2, 255, 0, 128);
        int want = wantFrom(x, digestOf(255, 0, 128), p);
        due("none yet", x.byteOf(want, 0), NONE);
        x.begin(want);
        x.tick(1);
        due("byte 0", x.byteOf(want, 0), 255);
        due("byte 1", x.byteOf(want, 1), 0);
        due("byte 2 is still to come", x.byteOf(want, 2), NONE);
        x.tick(1);
        due("byte 2", x.byteOf(want, 2), 128);
        due("no byte 3", x.byteOf(want, 3), NONE);
        due("no byte -1", x.byteOf(want, -1), NONE);
        due("no byte 100", x.byteOf(want, 100), NONE);
        due("no byte LOW", x.byteOf(want, LOW), NONE);
        due("no byte HIGH", x.byteOf(want, HIGH), NONE);
        due("none such", x.byteOf(1, 0), NONE);
        due("none such", x.byteOf(-1, 0), NONE);

        FetchRules y = new FetchRules(0);
        int bad = placeWith(y, 0, 50, 1, 2, 3);
        int good = placeWith(y, 0, 1, 6, 7);
        int moved = begunFrom(y, digestOf(6, 7), bad, good);
        y.tick(1);
        due("bytes of a PLACE that was GIVEN UP", y.byteOf(moved, 0), NONE);
        y.tick(1);
        due("of the next", y.byteOf(moved, 0), 6);
        due("none behind", y.byteOf(moved, 1), NONE);
    }

    private static void promise15And16() {
        heldTo = "promise 15 and 16";
        FetchRules x = new FetchRules(0);
        int p = placeWith(x, 0, 50, 1);
        int q = placeWith(x, 0, 50, 2, 2);
        int r = placeWith(x, 0, 50, 3);
        due("none yet", x.barred(0, 0), NONE);
        due("none yet", x.barred(0, 1), NONE);
        due("none yet", x.came(0), 0);
        int zero = wantFrom(x, 70, r);
        int one = wantFrom(x, 71, q, p);
        int two = wantFrom(x, 72, p, r);
        x.begin(two);
        x.begin(one);
        x.tick(1);
        x.begin(zero);
        x.tick(1);
        // p is told twice: one went on to it before two told of it.
        int[][] told = {{one, q, digestOf(2, 2)}, {two, p, digestOf(1)}, {zero, r, digestOf(3)}, {one, p, digestOf(1)},
            {two, r, digestOf(3)}};
        for (int i = 0; i < told.length; i++) {
            due("barred(" + i + ", 0)", x.barred(i, 0), told[i][0]);
            due("barred(" + i + ", 1)", x.barred(i, 1), told[i][1]);
            due("came(" + i + ")", x.came(i), told[i][2]);
            due("another what", x.barred(i, 2), NONE);
            due("another what", x.barred(i, -1), NONE);
        }
        due("no more", x.barred(5, 0), NONE);
        due("no more", x.came(5), 0);
        due("none such", x.barred(-1, 0), NONE);
        due("none such", x.barred(HIGH, 1), NONE);
        due("none such", x.barred(LOW, 1), NONE);
        due("none such", x.came(-1), 0);
        due("none such", x.came(HIGH), 0);
        due("all FAILED", x.tick(1), 0);
        due("BARRED for good", x.begin(two), FAILED);
    }

    private static void promise15Led() {
        heldTo = "promise 15, led";
        FetchRules x = new FetchRules(0);
        int lead = placeWith(x, 0, 50, 9);
        int giver = placeWith(x, 1, 50, 1, 2);
        x.does(lead, 1, giver);
        int want = begunFrom(x, 5, lead);
        x.tick(1);
        due("the WANT", x.barred(0, 0), want);
        due("its own PLACE, not the one it was led to", x.barred(0, 1), lead);
        due("what came", x.came(0), digestOf(1, 2));
        int other = begunFrom(x, digestOf(1, 2), giver);
        due("the one led to isn't BARRED", x.about(other, 0), FETCHES);
    }

    private static void promise15MostTellings() {
        heldTo = "promise 15, all that can be told";
        FetchRules x = new FetchRules(0);
        for (int i = 0; i < 16; i++) {
            placeWith(x, 0, 50, i + 1);
        }
        int[][] groups = {{0, 1, 2, 3, 4, 5}, {6, 7, 8, 9, 10, 11}};
        for (int w = 0; w < 10; w++) {
            wantFrom(x, 1000 + w, groups[w % 2]);
            x.begin(w);
        }
        due("all FAILED", x.tick(6), 0);
        for (int i = 0; i < 60; i++) {
            int place = i / 10 + 6 * (i % 2);
            due("the WANT", x.barred(i, 0), i % 10);
            due("the PLACE", x.barred(i, 1), place);
            due("what came", x.came(i), digestOf(place + 1));
        }
        due("no more", x.barred(60, 0), NONE);
    }

    private static void promise17() {
        heldTo = "promise 17";
        FetchRules x = new FetchRules(0);
        int p = placeWith(x, 0, 50, 1);
        for (int i = 0; i < 10; i++) {
            wantFrom(x, i == 9 ? digestOf(1) : 100 + i, p);
        }
        due("none yet", x.lacks(0), NONE);
        x.offLine(true);
        due("none yet", x.lacks(0), NONE);
        int[] order = {4, 1, 4, 8, 1, 0};
        for (int want : order) {
            due("FAILED", x.begin(want), FAILED);
        }
        int[] once = {4, 1, 8, 0, NONE};
        for (int i = 0; i < once.length; i++) {
            due("lacks(" + i + ")", x.lacks(i), once[i]);
        }
        due("none such", x.lacks(-1), NONE);
        due("none such", x.lacks(LOW), NONE);
        due("none such", x.lacks(HIGH), NONE);
        x.offLine(true);
        due("since the latest offLine", x.lacks(0), NONE);
        x.begin(1);
        due("anew", x.lacks(0), 1);
        due("anew", x.lacks(1), NONE);
        x.offLine(false);
        due("since the latest offLine, off too", x.lacks(0), NONE);
        due("FETCHES", x.begin(9), FETCHES);
        x.begin(2);
        x.tick(1);
        due("FAILED, but not for being OFF-LINE", x.about(2, 0), FAILED);
        due("doesn't LACK", x.lacks(0), NONE);
        x.offLine(true);
        x.begin(9);
        due("one that is KEPT doesn't LACK", x.lacks(0), NONE);
        for (int i = 8; i >= 0; i--) {
            x.begin(i);
        }
        for (int i = 0; i < 9; i++) {
            due("lacks(" + i + ")", x.lacks(i), 8 - i);
        }
        due("no more", x.lacks(9), NONE);

        FetchRules y = new FetchRules(0);
        y.offLine(true);
        for (int i = 0; i < 10; i++) {
            y.begin(y.want(i));
        }
        due("the tenth", y.lacks(9), 9);
        due("no more", y.lacks(10), NONE);
    }

    private static void promise18() {
        heldTo = "promise 18";
        FetchRules x = new FetchRules(3);
        due("none such", x.sent(-1), 0);
        due("none such", x.sent(8), 0);
        due("none such", x.sent(HIGH), 0);
        x.credential(5, true);
        int p = placeWith(x, 5, 1, 1, 2, 3);
        int plain = placeWith(x, 4, 1, 1, 2, 4);
        int gone = x.place(5, 1);
        x.does(gone, 0, 1);
        int want = begunFrom(x, digestOf(1, 2, 3), gone, p);
        begunFrom(x, digestOf(1, 2, 4), plain);
        due("BEGINNING sends none", x.sent(5), 0);
        x.tick(1);
        due("a GONE one was asked with one", x.sent(5), 1);
        x.tick(1);
        due("asked without being WANTED", x.sent(5), 2);
        x.cut(p, 1, 0);
        x.tick(1);
        due("once more", x.sent(5), 3);
        x.tick(2);
        due("each TURN once", x.sent(5), 5);
        due("DONE", x.about(want, 0), DONE);
        x.tick(5);
        due("no TURN sends none", x.sent(5), 5);
        due("a HOST without one", x.sent(4), 0);
    }

    private static void promise18Leading() {
        heldTo = "promise 18, LEADS";
        FetchRules x = new FetchRules(0);
        x.credential(1, true);
        x.credential(2, true);
        int a = placeWith(x, 1, 50, 1);
        int b = placeWith(x, 1, 50, 2);
        int c = placeWith(x, 2, 50, 3);
        int d = placeWith(x, 1, 50, 4);
        x.does(a, 1, b);
        x.does(b, 1, c);
        x.does(c, 1, d);
        int want = begunFrom(x, digestOf(4), a);
        x.tick(1);
        due("on the same HOST it is sent on", x.sent(1), 2);
        due("to another HOST it isn't", x.sent(2), 0);
        due("the last gives all the same", x.about(want, 0), DONE);
        x.does(d, 2, 1);
        int refused = begunFrom(x, digestOf(4, 4), a);
        x.tick(1);
        due("nor when it comes back", x.about(refused, 0), FAILED);
        due("nor counted then", x.sent(1), 4);
        x.does(b, 1, d);
        int straight = begunFrom(x, digestOf(4, 4, 4), a);
        x.content(d, 0x0404, 2);
        x.tick(1);
        due("all on one HOST", x.about(straight, 0), DONE);
        due("each one asked", x.sent(1), 7);

        FetchRules y = new FetchRules(0);
        y.credential(2, true);
        int from = placeWith(y, 1, 50, 1);
        int to = placeWith(y, 2, 50, 2);
        y.does(from, 1, to);
        y.does(to, 2, 1);
        int none = begunFrom(y, digestOf(2), from);
        y.tick(1);
        due("the first HOST's counts, not the other's", y.about(none, 0), FAILED);
        due("none was sent", y.sent(2), 0);

        FetchRules z = new FetchRules(0);
        z.credential(0, true);
        int self = placeWith(z, 0, 50, 1);
        z.does(self, 1, self);
        begunFrom(z, digestOf(1), self);
        z.tick(1);
        due("TOO FAR isn't asked any more", z.sent(0), 4);
        z.does(self, 0, 1);
        z.begin(0);
        z.tick(1);
        due("a GONE one doesn't LEAD", z.sent(0), 5);
    }

    private static void promise19() {
        heldTo = "promise 19";
        FetchRules x = doneWith(archive("a/b", 1, "c", 0));
        due("two FILES", x.unpack(0, 0), 2);
        due("no such WANT", x.unpack(1, 0), -1000);
        due("no such WANT", x.unpack(-1, 0), -1000);
        due("k -1", x.unpack(0, -1), -1000);
        due("k 6", x.unpack(0, 6), -1000);
        due("k HIGH", x.unpack(0, HIGH), -1000);
        due("k 5", x.unpack(0, 5), 0);
        x.want(4);
        due("IDLE", x.unpack(1, 0), -1000);
        x.begin(1);
        due("FAILED", x.unpack(1, 0), -1000);
        int slow = placeWith(x, 0, 1, archive("ab", 0));
        int want = begunFrom(x, x.digest(slow), slow);
        x.tick(1);
        due("FETCHES", x.unpack(want, 0), -1000);
        x.tick(3);
        due("DONE", x.unpack(want, 0), 1);
        due("an empty row", doneWith().unpack(0, 0), 0);
        due("one PATH twice", doneWith(archive("a", 1, "b", 0, "a", 2)).unpack(0, 0), 2);
        due("one PATH STRIPPED", doneWith(archive("x/a", 1, "y/a", 0)).unpack(0, 1), 1);
        due("two PATHS", doneWith(archive("x/a", 1, "y/a", 0)).unpack(0, 0), 2);
    }

    private static void dueIll(String what, int place, int... row) {
        FetchRules x = doneWith(row);
        due(what + " (DONE)", x.about(0, 0), DONE);
        for (int k = 0; k <= 5; k++) {
            due(what, x.unpack(0, k), -1 - place);
        }
    }

    private static void promise19Ill() {
        heldTo = "promise 19, ILL";
        int[] good = archive("a", 2);
        dueIll("n 0", 0, 0);
        dueIll("n 21", 0, 21);
        dueIll("n 255", 0, 255);
        dueIll("n 0 in the second ENTRY", 5, joined(good, 0, 'a', 0));
        dueIll("n 21 before all that lacks", 5, joined(good, 21, '/'));
        dueIll("no PATH", 1, 1);
        dueIll("no PATH in the second ENTRY", 6, joined(good, 1));
        dueIll("half a PATH", 3, 3, 'a', 'b');
        dueIll("half a PATH that isn't right", 3, 3, '/', '/');
        dueIll("no m", 2, 1, 'a');
        dueIll("no m behind a wrong PATH", 2, 1, '.');
        dueIll("a wrong PATH", 1, 1, '.', 0);
        dueIll("a wrong PATH in the second ENTRY", 6, joined(good, 2, 'a', '/', 0));
        dueIll("a wrong PATH before bytes that lack", 1, 1, '.', 9);
        dueIll("bytes that lack", 3, 1, 'a', 1);
        dueIll("bytes that lack", 4, 1, 'a', 2, 9);
        dueIll("255 bytes that lack", 3, 1, 'a', 255);
        dueIll("bytes that lack in the second ENTRY", 9, joined(good, 1, 'a', 2, 7));
        dueIll("the first ENTRY's fault first", 1, joined(archive("..", 0), 0));
        dueIll("n 99 at the last of 100 bytes", 99, joined(archive("a", 96), 99));
        dueIll("lacking behind 100 bytes", 100, joined(archive("a", 96), 1));
        dueIll("33 ENTRIES and a byte", 99, joined(shortest(33), 0));
        due("a whole one of 100 bytes", doneWith(archive("a", 97)).unpack(0, 0), 1);
        dueIll("one byte less", 99, without(archive("a", 97), 1));
    }

    private static void promise19Paths() {
        heldTo = "promise 19, PATHS";
        String[] right = {"a", "z", "0", "9", "a.b", ".a", "a.", "...", "a/...", "..a", "a..", "a/b", "a/b/c", "a/.b/c",
            "a/b./c", "a/..b", "....", "abcdefghij0123456789", "a/b/c/d/e/f/g/h/i/jk"};
        for (String path : right) {
            due("right: " + path, doneWith(archive(path, 1)).unpack(0, 0), 1);
        }
        String[] bad = {"A", "Z", "-", "_", "`", "{", ":", "a b", "a\u0000", "a\u00ff", "a\\b", ".", "..", "/", "/a", "a/",
            "a//b", "./a", "../a", "a/.", "a/..", "a/./b", "a/../b", "//", "a/b/", "a/b/..", "a,", "bC", "abcdefghij012345678/"};
        for (String path : bad) {
            due("not right: " + path, doneWith(archive(path, 1)).unpack(0, 0), -2);
        }
    }

    private static void promise19Stripped() {
        heldTo = "promise 19, STRIPPED";
        int[] row = archive("a", 1, "a/b", 2, "a/b/c", 3, "b/b", 4, "p/q/r/s/t/u", 0);
        int[] counts = {5, 3, 2, 1, 1, 1};
        FetchRules x = doneWith(row);
        for (int k = 0; k <= 5; k++) {
            due("STRIPPED by " + k, x.unpack(0, k), counts[k]);
        }
        due("with no more than 5", doneWith(archive("p/q/r/s/t", 0)).unpack(0, 5), 0);
        due("with more than 5", doneWith(archive("p/q/r/s/t/u", 0)).unpack(0, 5), 1);
    }

    private static void promise20() {
        heldTo = "promise 20";
        // n and the PATHS stand at 0 (a), 4 (a/b), 11 (a/b/c), 21 (b/b), 30 (a)
        FetchRules x = doneWith(archive("a", 1, "a/b", 2, "a/b/c", 3, "b/b", 4, "a", 5));
        due("before any unpack", x.file(0, 0), NONE);
        due("unpack", x.unpack(0, 0), 4);
        dueFile(x, 0, 33, 5, 1, 1);
        dueFile(x, 1, 9, 2, 5, 3);
        dueFile(x, 2, 18, 3, 12, 5);
        dueFile(x, 3, 26, 4, 22, 3);
        dueFile(x, 4, NONE, NONE, NONE, NONE);
        dueFile(x, -1, NONE, NONE, NONE, NONE);
        dueFile(x, LOW, NONE, NONE, NONE, NONE);
        dueFile(x, HIGH, NONE, NONE, NONE, NONE);
        due("another what", x.file(0, 4), NONE);
        due("another what", x.file(0, -1), NONE);
        due("unpack STRIPPED", x.unpack(0, 1), 2);
        dueFile(x, 0, 26, 4, 7, 1);
        dueFile(x, 1, 18, 3, 14, 3);
        dueFile(x, 2, NONE, NONE, NONE, NONE);
        due("unpack STRIPPED", x.unpack(0, 2), 1);
        dueFile(x, 0, 18, 3, 16, 1);
        due("PATHS of one length differ", doneWith(archive("ab", 0, "aa", 0, "bb", 0)).unpack(0, 0), 3);
        due("one that begins another", doneWith(archive("ab", 0, "a", 0, "abc", 0)).unpack(0, 0), 3);
    }

    private static void promise20Latest() {
        heldTo = "promise 20, the latest";
        FetchRules x = doneWith(archive("a", 1, "b", 2));
        int ill = placeWith(x, 0, 50, joined(archive("c", 9), 0));
        int want = begunFrom(x, x.digest(ill), ill);
        int empty = begunFrom(x, 0, x.place(0, 50));
        x.tick(1);
        due("unpack", x.unpack(0, 0), 2);
        due("ILL", x.unpack(want, 0), -1 - 12);
        due("refused", x.unpack(9, 0), -1000);
        due("refused", x.unpack(0, 6), -1000);
        dueFile(x, 0, 3, 1, 1, 1);
        dueFile(x, 1, 7, 2, 5, 1);
        due("an empty one counts", x.unpack(empty, 0), 0);
        dueFile(x, 0, NONE, NONE, NONE, NONE);
    }

    private static void promise20Most() {
        heldTo = "promise 20, the most";
        FetchRules x = doneWith(shortest(33));
        due("33 FILES", x.unpack(0, 0), 33);
        for (int i = 0; i < 33; i++) {
            dueFile(x, i, 3 * i + 3, 0, 3 * i + 1, 1);
        }
        due("no more", x.file(33, 0), NONE);
    }
}
