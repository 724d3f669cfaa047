/** What the document begins with: each part of its first sentence once, and an object at its 512th call. */
public final class FetchRulesWhatItIs extends Checks {
    private static final int MOST_CALLS = 512;

    private static int calls = 0;

    public static void main(String[] args) {
        placesTriedInOrder();
        partialContentGoneOnWith();
        waitsThatGrow();
        redirectsThatAreBounded();
        redirectsThatLoseCredentials();
        whatComesCheckedByItsDigest();
        mirrorsThatLieBarred();
        whatIsKeptUsedAgain();
        offLineWhatLacksTold();
        archivesUnpackedWithPathsLookedAt();
        everythingFull();
        lateCalls();
        end();
    }

    private static void placesTriedInOrder() {
        opening("places tried in order");
        FetchRules x = new FetchRules(0);
        for (int i = 0; i < 3; i++) {
            placeWith(x, i, 50, 5);
        }
        x.does(2, 0, 1);
        x.does(0, 0, 1);
        int want = begunFrom(x, digestOf(5), 2, 0, 1);
        for (int place : new int[] {2, 0, 1}) {
            due("its PLACE", x.about(want, 1), place);
            x.tick(1);
        }
        due("DONE at the third", x.about(want, 0), DONE);
    }

    private static void partialContentGoneOnWith() {
        opening("partial content gone on with");
        FetchRules x = new FetchRules(1);
        x.cut(placeWith(x, 0, 4, upTo(9)), 1, 2);
        int want = begunFrom(x, digestOf(upTo(9)), 0);
        for (int bytes : new int[] {2, 6, 9}) {
            x.tick(1);
            due("bytes", x.about(want, 2), bytes);
        }
        due("DONE", x.about(want, 0), DONE);
        for (int i = 0; i < 9; i++) {
            due("byteOf(" + i + ")", x.byteOf(want, i), i + 1);
        }
    }

    private static void waitsThatGrow() {
        opening("waits that grow");
        FetchRules x = new FetchRules(5);
        x.cut(placeWith(x, 0, 50, 1), 9, 0);
        int want = begunFrom(x, digestOf(1), 0);
        int clock = 1;
        x.tick(1);
        for (int wait = 1; wait <= 16; wait *= 2) {
            due("till when it WAITS", x.about(want, 3), clock + wait);
            due("before", x.tick(wait - 1), 1);
            due("it WAITS till then", x.about(want, 0), WAITS);
            x.tick(1);
            clock += wait;
        }
        due("no sixth wait", x.about(want, 0), FAILED);
        due("TURNS", x.about(want, 4), 6);
    }

    private static void redirectsThatAreBounded() {
        opening("redirects that are bounded");
        for (int leads = 0; leads < 6; leads++) {
            FetchRules x = new FetchRules(0);
            for (int i = 0; i <= leads; i++) {
                placeWith(x, 0, 50, 8);
            }
            for (int i = 0; i < leads; i++) {
                x.does(i, 1, i + 1);
            }
            begunFrom(x, digestOf(8), 0);
            x.tick(1);
            due("after " + leads + " of them", x.about(0, 0), leads < 4 ? DONE : FAILED);
        }
    }

    private static void redirectsThatLoseCredentials() {
        opening("and lose credentials");
        FetchRules x = new FetchRules(0);
        int[] hosts = {3, 3, 4, 3};
        for (int i = 0; i < 4; i++) {
            placeWith(x, hosts[i], 50, 8);
            x.credential(hosts[i], true);
        }
        for (int i = 0; i < 3; i++) {
            x.does(i, 1, i + 1);
        }
        begunFrom(x, digestOf(8), 0);
        x.tick(1);
        due("fetched without one", x.about(0, 0), DONE);
        due("sent(3), and not again behind host 4", x.sent(3), 2);
        due("sent(4)", x.sent(4), 0);
    }

    private static void whatComesCheckedByItsDigest() {
        opening("what comes checked by its digest");
        for (int digest : new int[] {digestOf(1, 2), digestOf(2, 1), digestOf(1, 2) + 1, ~digestOf(1, 2)}) {
            FetchRules x = new FetchRules(0);
            int want = begunFrom(x, digest, placeWith(x, 0, 50, 1, 2));
            x.tick(1);
            due("WANT of " + digest, x.about(want, 0), digest == digestOf(1, 2) ? DONE : FAILED);
        }
    }

    private static void mirrorsThatLieBarred() {
        opening("mirrors that lie barred");
        FetchRules x = new FetchRules(0);
        x.does(placeWith(x, 0, 50, 6, 7), 3, 1);
        placeWith(x, 1, 50, 6, 7);
        int first = begunFrom(x, digestOf(6, 7), 0, 1);
        x.tick(1);
        due("the WANT that told", x.barred(0, 0), first);
        due("the PLACE", x.barred(0, 1), 0);
        due("what came", x.came(0), digestOf(7, 7));
        x.does(0, 3, 0);
        int second = begunFrom(x, digestOf(6, 7), 0, 1);
        due("it stays BARRED when it LIES no more", x.about(second, 1), 1);
        due("both fetch", x.tick(1), 0);
        due("the first", x.about(first, 0), DONE);
        due("the second", x.about(second, 0), DONE);
    }

    private static void whatIsKeptUsedAgain() {
        opening("what is kept used again");
        FetchRules x = doneWith(4, 5, 6);
        x.does(0, 0, 1);
        int again = x.want(digestOf(4, 5, 6));
        due("without a PLACE", x.begin(again), DONE);
        due("without a TURN", x.about(again, 4), 0);
        due("its bytes", x.about(again, 2), 3);
        due("the last of them", x.byteOf(again, 2), 6);
    }

    private static void offLineWhatLacksTold() {
        opening("off-line what lacks told");
        FetchRules x = doneWith(4);
        x.offLine(true);
        int lacking = wantFrom(x, 77, 0);
        int kept = wantFrom(x, digestOf(4), 0);
        due("what is not KEPT", x.begin(lacking), FAILED);
        due("what is", x.begin(kept), DONE);
        due("lacks(0)", x.lacks(0), lacking);
        due("lacks(1)", x.lacks(1), NONE);
    }

    private static void archivesUnpackedWithPathsLookedAt() {
        opening("archives unpacked with paths looked at");
        FetchRules right = doneWith(archive("b/c", 2, "d", 1));
        due("two FILES", right.unpack(0, 0), 2);
        dueFile(right, 0, 5, 2, 1, 3);
        dueFile(right, 1, 10, 1, 8, 1);
        for (String path : new String[] {"../b", "/b", "b/", "b//c", "./b", "b/..", "B", "b\\c", ".", "..", "b c", "b_"}) {
            due(path + " behind a right one", doneWith(archive("a", 1, path, 1)).unpack(0, 0), -1 - 5);
        }
    }

    /** PLACES, their CONTENTS, WANTS and their PLACES are as many as there may be; all of the PLACES but the last LIE. */
    private static void everythingFull() {
        opening("An object is used for at most 512 calls after it has been made");
        calls = 0;
        FetchRules x = new FetchRules(5);
        int[] row = joined(shortest(33), 9);
        row[98] = 1;
        for (int place = 0; place < 16; place++) {
            call("place", x.place(place % 8, 50), place);
            fill(x, place, row);
        }
        for (int want = 0; want < 10; want++) {
            call("want", x.want(digestOf(row)), want);
            for (int place : new int[] {0, 1, 2, 3, 4, 15}) {
                call("from", x.from(want, place) ? 1 : 0, 1);
            }
            call("begin", x.begin(want), FETCHES);
        }
        call("five PLACES, with two TURNS each", x.tick(10), 10);
        call("the sixth", x.tick(2), 0);
        row[0] ^= 1;
        for (int i = 0; i < 50; i++) {
            call("barred(" + i + ", 1)", x.barred(i, 1), i / 10);
            call("came(" + i + ")", x.came(i), digestOf(row));
        }
        while (calls < MOST_CALLS - 2) {
            call("unpack", x.unpack(calls % 10, 0), 33);
        }
        call("the 511th call", x.file(32, 0), 99);
        call("the 512th call", x.file(32, 1), 1);
        due("calls in all", calls, MOST_CALLS);
    }

    private static void fill(FetchRules x, int place, int[] row) {
        for (int i = 0; i < row.length; i += 8) {
            int n = Math.min(8, row.length - i);
            long w = 0;
            for (int j = 0; j < n; j++) {
                w = w << 8 | row[i + j];
            }
            call("content", x.content(place, w, n) ? 1 : 0, 1);
        }
        call("digest", x.digest(place), digestOf(row));
        call("does", x.does(place, 3, place < 15 ? 1 : 0) ? 1 : 0, 1);
    }

    private static void call(String what, long got, long want) {
        calls++;
        due(what, got, want);
    }

    private static void lateCalls() {
        opening("An object is used for at most 512 calls after it has been made");
        FetchRules x = new FetchRules(5);
        x.cut(x.place(0, 1), 9, 0);
        x.content(0, 1, 1);
        begunFrom(x, digestOf(1), 0);
        for (int calls = 6; calls < MOST_CALLS - 6; calls++) {
            x.tick(50);
        }
        due("the 507th call", x.about(0, 0), FAILED);
        due("the 508th", x.begin(0), FETCHES);
        due("the 509th", x.tick(50), 0);
        due("the 510th", x.about(0, 0), DONE);
        due("the 511th", x.about(0, 4), 10);
        due("the 512th", x.byteOf(0, 0), 1);
    }
}
