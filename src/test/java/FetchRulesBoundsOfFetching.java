/** Promises 10 to 18 and the terms that they speak of: a test of its own for each boundary case that a sentence names. */
public final class FetchRulesBoundsOfFetching extends Twins {
    private static final int[] FAR_OUT = {LOW, LOW + 1, -1000, 1000, HIGH - 1, HIGH};

    public static void main(String[] args) {
        offLineCountsForBeginningAlone();
        offLineTwiceIsOffLine();

        beginAnswersWhatTheWantIsThen();
        beginRefusesWantsThatAreNot();
        beginRefusesOneThatFetches();
        beginRefusesOneThatWaits();
        beginAgainWhenDone();
        beginAgainWhenFailed();
        beginWithKeptBeforeAllElse();
        beginOffLineBeforePlaces();
        beginWithoutPlaces();
        beginAtTheFirstThatIsNotBarred();
        beginWithAllBarred();
        beginWithNoBytes();

        tickJustInside();
        tickJustOutside();
        tickCountsFetchingAndWaiting();
        clockGoesOnWithNothingToDo();
        onlyOneThatFetchesHasATurn();
        waitsTillNowOrBefore();
        wantsGoByTheirNumbers();

        rateOrWhatThereIs();
        emptyContentIsAllAtOnce();
        moreBytesThanTheContent();
        liesInTheFirstByteAlone();
        liesWithoutAByte();
        cutGivesAtMostAsManyAsTold();
        cutWithAllThenDoesNotFalter();
        cutStillIsAnAnswer();
        placesThatGiveNothingAreNotCut();

        credentialIsThatOfTheTurn();
        threeLeadsAreNotTooFar();
        fourthLeadIsTooFar();
        goneOnesDoNotLead();
        goneOnesThatAreLedTo();
        credentialIsNotSentOnToAnotherHost();
        credentialIsWantedByTheLastAlone();
        barredOnesAreAskedIfLedTo();

        rightDigestIsDoneAndKept();
        rowsAreKeptByTheirDigests();
        anotherOfThatDigestStays();
        wrongDigestIsBarred();
        digestIsLookedAtInFull();

        falteringWaitsOneTwoFour();
        falteringWithNoRetries();
        falteringAtEachPlaceAnew();
        falteringGoesOnWithItsBytes();
        falteringBehindAWholeAnswer();
        falteringOnceTooOften();

        givenUpToTheNextThatIsNotBarred();
        givenUpWithNoBytesAndNoTurn();
        givenUpBehindTheLast();

        aboutWantsThatAreNot();
        aboutAnotherWhat();
        aboutEachState();
        aboutWhatIsNotSo();
        aboutTurnsInAll();
        aboutMostBytes();
        aboutALateClock();

        byteOfJustInsideAndOutside();
        byteOfWantsThatAreNot();
        byteOfNoBytes();

        barredJustInsideAndOutside();
        barredAnotherWhat();
        cameJustInsideAndOutside();
        cameZeroAndBelow();
        toldAsOftenAsCanBe();

        lacksJustInsideAndOutside();
        lacksAllTen();
        lacksEachOnce();
        lacksSinceTheLatestOffLine();
        lacksNotForOtherFailures();

        sentToHostsThatAreNot();
        sentOnceForEachPlaceAsked();
        sentToFirstAndLastHost();
        sentAsOftenAsCanBe();
        end();
    }

    // ---- Promise 10

    private static void offLineCountsForBeginningAlone() {
        promise(10, "(It counts for BEGINNING alone.)");
        FetchRules x = new FetchRules(1);
        int slow = placeWith(x, 0, 1, 1, 2);
        int cut = placeWith(x, 0, 1, 3);
        int gone = x.place(0, 1);
        x.cut(cut, 1, 0);
        x.does(gone, 0, 1);
        int fetches = begunFrom(x, digestOf(1, 2), slow);
        int waits = begunFrom(x, digestOf(3), cut);
        int moves = begunFrom(x, digestOf(1, 2), gone, slow);
        x.tick(1);
        x.offLine(true);
        due("none left", x.tick(2), 0);
        due("one that FETCHED", x.about(fetches, 0), DONE);
        due("one that WAITED", x.about(waits, 0), DONE);
        due("one that went on to its next PLACE", x.about(moves, 0), DONE);
        due("none LACKS", x.lacks(0), NONE);
    }

    private static void offLineTwiceIsOffLine() {
        promise(10, "OFF-LINE, or not");
        FetchRules x = new FetchRules(0);
        int want = wantFrom(x, 99, placeWith(x, 0, 1, 1));
        x.offLine(true);
        x.offLine(true);
        due("OFF-LINE", x.begin(want), FAILED);
        x.offLine(false);
        due("not OFF-LINE by one call", x.begin(want), FETCHES);
    }

    // ---- Promise 11 and BEGINNING

    private static void beginAnswersWhatTheWantIsThen() {
        promise(11, "BEGINNING: what the WANT is then");
        FetchRules x = furnished();
        due("KEPT", x.begin(0), DONE);
        due("OFF-LINE", x.begin(4), FAILED);
        x.offLine(false);
        due("a PLACE", x.begin(4), FETCHES);
        for (int want = 0; want < 6; want++) {
            int answer = x.begin(want);
            if (answer != NONE) {
                due("begin(" + want + ")", answer, x.about(want, 0));
            }
        }
    }

    private static void beginRefusesWantsThatAreNot() {
        promise(11, "NONE if there is none such");
        for (int want : joined(FAR_OUT, -1, 6, 10)) {
            refused("begin(" + want + ")", NONE, Twins::furnished, x -> x.begin(want));
        }
    }

    private static void beginRefusesOneThatFetches() {
        promise(11, "or it FETCHES or WAITS");
        refused("begin one that FETCHES", NONE, Twins::furnished, x -> x.begin(3));
    }

    private static void beginRefusesOneThatWaits() {
        promise(11, "or it FETCHES or WAITS");
        refused("begin one that WAITS", NONE, Twins::furnished, x -> x.begin(2));
    }

    private static void beginAgainWhenDone() {
        promise(11, "(One that is DONE or has FAILED may begin again.)");
        FetchRules x = doneWith(1, 2, 3);
        due("DONE with what is KEPT", x.begin(0), DONE);
        due("its bytes", x.about(0, 2), 3);
        due("its TURNS stay", x.about(0, 4), 1);
        due("none FETCHES", x.tick(1), 0);
    }

    private static void beginAgainWhenFailed() {
        promise(11, "(One that is DONE or has FAILED may begin again.)");
        FetchRules x = new FetchRules(0);
        int place = placeWith(x, 0, 50, 1);
        x.does(place, 0, 1);
        int want = begunFrom(x, digestOf(1), place);
        x.tick(1);
        due("FAILED", x.about(want, 0), FAILED);
        due("FETCHES", x.begin(want), FETCHES);
        x.does(place, 0, 0);
        x.tick(1);
        due("DONE", x.about(want, 0), DONE);
    }

    private static void beginWithKeptBeforeAllElse() {
        terms("if a row of its DIGEST is KEPT, it is DONE with that");
        FetchRules x = new FetchRules(0);
        int place = placeWith(x, 0, 50, 5, 6);
        begunFrom(x, digestOf(5, 6), place);
        x.tick(1);
        int liar = placeWith(x, 0, 50, 9);
        begunFrom(x, 77, liar);
        x.tick(1);
        due("with a PLACE", x.begin(wantFrom(x, digestOf(5, 6), place)), DONE);
        due("without PLACES", x.begin(x.want(digestOf(5, 6))), DONE);
        due("with a BARRED one alone", x.begin(wantFrom(x, digestOf(5, 6), liar)), DONE);
        x.offLine(true);
        int offLine = x.want(digestOf(5, 6));
        due("OFF-LINE", x.begin(offLine), DONE);
        due("it doesn't LACK", x.lacks(0), NONE);
        due("its bytes", x.about(offLine, 2), 2);
        due("the first", x.byteOf(offLine, 0), 5);
        due("the last", x.byteOf(offLine, 1), 6);
    }

    private static void beginOffLineBeforePlaces() {
        terms("else if OFF-LINE, it has FAILED, and LACKS");
        FetchRules x = new FetchRules(0);
        int liar = placeWith(x, 0, 50, 9);
        begunFrom(x, 77, liar);
        x.tick(1);
        x.offLine(true);
        due("with a BARRED one alone", x.begin(wantFrom(x, 78, liar)), FAILED);
        due("without PLACES", x.begin(x.want(79)), FAILED);
        due("with a PLACE", x.begin(wantFrom(x, 80, x.place(0, 1))), FAILED);
        for (int i = 0; i < 3; i++) {
            due("lacks(" + i + ")", x.lacks(i), i + 1);
        }
        due("none FETCHES", x.tick(1), 0);
    }

    private static void beginWithoutPlaces() {
        terms("(if there is none, it has FAILED)");
        FetchRules x = new FetchRules(0);
        int want = x.want(99);
        due("FAILED", x.begin(want), FAILED);
        due("it doesn't LACK", x.lacks(0), NONE);
        due("no TURN", x.tick(1), 0);
        due("no TURN", x.about(want, 4), 0);
    }

    /** PLACES 0 .. 5, of which the first n are BARRED, and a new WANT with all six. */
    private static FetchRules withBarred(int n) {
        FetchRules x = new FetchRules(0);
        for (int i = 0; i < 6; i++) {
            placeWith(x, 0, 50, i);
        }
        for (int i = 0; i < n; i++) {
            begunFrom(x, 70, i);
        }
        x.tick(1);
        wantFrom(x, 71, 0, 1, 2, 3, 4, 5);
        return x;
    }

    private static void beginAtTheFirstThatIsNotBarred() {
        terms("it FETCHES from its first PLACE that isn't BARRED");
        for (int n = 0; n <= 5; n++) {
            FetchRules x = withBarred(n);
            due("with " + n + " BARRED", x.begin(n), FETCHES);
            due("its PLACE", x.about(n, 1), n);
        }
    }

    private static void beginWithAllBarred() {
        terms("(if there is none, it has FAILED)");
        FetchRules x = withBarred(6);
        due("with all BARRED", x.begin(6), FAILED);
        due("no PLACE", x.about(6, 1), NONE);
        due("it doesn't LACK", x.lacks(0), NONE);
    }

    private static void beginWithNoBytes() {
        terms("with no bytes (if there is none, it has FAILED)");
        FetchRules x = new FetchRules(0);
        int place = placeWith(x, 0, 50, 1, 2);
        x.cut(place, 1, 1);
        int want = begunFrom(x, digestOf(1, 2), place);
        x.tick(1);
        due("FAILED", x.about(want, 0), FAILED);
        x.begin(want);
        due("no bytes", x.about(want, 2), 0);
        due("not even the first", x.byteOf(want, 0), NONE);
        x.tick(1);
        due("DONE from the first byte on", x.about(want, 0), DONE);
    }

    // ---- Promise 12: the CLOCK

    private static FetchRules fetchingSlowly() {
        FetchRules x = new FetchRules(0);
        begunFrom(x, 99, placeWith(x, 0, 1, upTo(60)));
        return x;
    }

    private static void tickJustInside() {
        promise(12, "so many times (0 .. 50)");
        FetchRules x = fetchingSlowly();
        due("tick(0)", x.tick(0), 1);
        due("no TURN", x.about(0, 4), 0);
        due("tick(1)", x.tick(1), 1);
        due("one TURN", x.about(0, 4), 1);
        due("tick(50)", x.tick(50), 1);
        due("50 TURNS more", x.about(0, 4), 51);
        due("51 bytes", x.about(0, 2), 51);
    }

    private static void tickJustOutside() {
        promise(12, "NONE if it isn't so");
        for (int n : joined(FAR_OUT, -1, 51)) {
            refused("tick(" + n + ")", NONE, Twins::furnished, x -> x.tick(n));
        }
    }

    private static void tickCountsFetchingAndWaiting() {
        promise(12, "how many WANTS FETCH or WAIT then");
        FetchRules none = new FetchRules(0);
        due("no WANTS", none.tick(50), 0);
        FetchRules x = furnished();
        due("one FETCHES, one WAITS", x.tick(0), 2);
        FetchRules all = new FetchRules(1);
        int slow = placeWith(all, 0, 1, 1, 2, 3);
        int cut = placeWith(all, 0, 1, 1, 2, 3);
        all.cut(cut, 9, 0);
        for (int i = 0; i < 10; i++) {
            begunFrom(all, digestOf(1, 2, 3), i % 2 == 0 ? slow : cut);
        }
        due("all ten", all.tick(1), 10);
        due("WAITS", all.about(1, 0), WAITS);
        all.cut(cut, 9, 0);
        due("those that WAITED are GIVEN UP", all.tick(1), 5);
        due("the others are DONE", all.tick(1), 0);
    }

    private static void clockGoesOnWithNothingToDo() {
        promise(12, "The CLOCK goes on by 1 so many times (0 .. 50)");
        int[] ticks = {0, 1, 49, 50};
        for (int n : ticks) {
            FetchRules x = new FetchRules(1);
            int place = placeWith(x, 0, 1, 1);
            x.cut(place, 1, 0);
            x.tick(n);
            x.tick(51);
            x.tick(-1);
            begunFrom(x, digestOf(1), place);
            x.tick(1);
            due("till, behind tick(" + n + ")", x.about(0, 3), n + 2);
        }
    }

    private static void onlyOneThatFetchesHasATurn() {
        terms("One that FETCHES has a TURN");
        FetchRules x = furnished();
        x.cut(1, 9, 0);
        // At CLOCK 4 WANT 2 WAITS till now, falters again and WAITS till 6, when it is GIVEN UP; WANT 3 is DONE at 5.
        int[][] turns = {{1, 2, 2, 2, 0, 0}, {1, 2, 2, 3, 0, 0}, {1, 2, 3, 3, 0, 0}, {1, 2, 4, 3, 0, 0}};
        for (int i = 0; i < turns.length; i++) {
            x.tick(1);
            for (int want = 0; want < 6; want++) {
                due("TURNS of " + want + " at CLOCK " + (4 + i), x.about(want, 4), turns[i][want]);
            }
        }
    }

    private static void waitsTillNowOrBefore() {
        terms("one that WAITS till now or before FETCHES");
        FetchRules x = new FetchRules(3);
        int place = placeWith(x, 0, 50, 1);
        x.cut(place, 3, 0);
        int want = begunFrom(x, digestOf(1), place);
        x.tick(4);
        due("WAITS till 8", x.about(want, 3), 8);
        x.tick(3);
        due("at 7 it WAITS", x.about(want, 0), WAITS);
        due("three TURNS", x.about(want, 4), 3);
        x.tick(1);
        due("at 8 it has its TURN", x.about(want, 4), 4);
        due("and is DONE", x.about(want, 0), DONE);
    }

    private static void wantsGoByTheirNumbers() {
        terms("then each WANT by its number");
        FetchRules x = new FetchRules(0);
        int gone = x.place(0, 1);
        x.does(gone, 0, 1);
        int bad = placeWith(x, 0, 50, 1);
        int before = wantFrom(x, 70, gone, bad);
        int bars = wantFrom(x, 71, bad);
        int behind = wantFrom(x, 72, gone, bad);
        x.begin(behind);
        x.begin(bars);
        x.begin(before);
        x.tick(1);
        due("one before it goes on to what isn't BARRED yet", x.about(before, 1), bad);
        due("it bars", x.barred(0, 0), bars);
        due("one behind it finds that BARRED", x.about(behind, 0), FAILED);
    }

    // ---- the TURN: bytes

    private static void rateOrWhatThereIs() {
        terms("behind as many as the WANT has by now: RATE, or what there is");
        int[] sizes = {9, 10, 11, 20, 21};
        int[] turns = {1, 1, 2, 2, 3};
        for (int i = 0; i < sizes.length; i++) {
            FetchRules x = new FetchRules(0);
            int[] bytes = upTo(sizes[i]);
            begunFrom(x, digestOf(bytes), placeWith(x, 0, 10, bytes));
            x.tick(turns[i] - 1);
            due("before the last TURN", x.about(0, 2), 10 * (turns[i] - 1));
            due("not DONE yet", x.about(0, 0), FETCHES);
            x.tick(1);
            due("DONE", x.about(0, 0), DONE);
            due("with all", x.about(0, 2), sizes[i]);
            due("in order", x.byteOf(0, sizes[i] - 1), sizes[i]);
        }
    }

    private static void emptyContentIsAllAtOnce() {
        terms("If it has as many bytes as the CONTENT has (or more): its DIGEST is looked at");
        FetchRules x = new FetchRules(0);
        int place = x.place(0, 1);
        int right = begunFrom(x, 0, place);
        int wrong = begunFrom(x, 1, place);
        due("one TURN", x.tick(1), 0);
        due("DONE", x.about(right, 0), DONE);
        due("FAILED", x.about(wrong, 0), FAILED);
        due("told", x.barred(0, 0), wrong);
        due("the DIGEST of none", x.came(0), 0);
    }

    private static void moreBytesThanTheContent() {
        terms("(or more)");
        FetchRules x = new FetchRules(0);
        int large = placeWith(x, 0, 3, 1, 2, 3, 4);
        int small = placeWith(x, 0, 3, 9, 9);
        int first = begunFrom(x, digestOf(1, 2, 3), large);
        int second = begunFrom(x, digestOf(9, 9), large);
        x.tick(1);
        x.does(large, 1, small);
        x.tick(1);
        due("DONE with more than there is", x.about(first, 0), DONE);
        due("with what it had", x.about(first, 2), 3);
        due("or BARRED by what it had", x.about(second, 0), FAILED);
        due("told", x.barred(0, 1), large);
        due("what came", x.came(0), digestOf(1, 2, 3));
    }

    private static void liesInTheFirstByteAlone() {
        terms("the first byte of its CONTENT (if it has one) comes xored with 1");
        int[][] lies = {{0, 1}, {1, 0}, {254, 255}, {255, 254}};
        for (int[] lie : lies) {
            FetchRules x = new FetchRules(0);
            int place = placeWith(x, 0, 1, lie[0], lie[0], lie[0]);
            x.does(place, 3, 1);
            int want = begunFrom(x, digestOf(lie[1], lie[0], lie[0]), place);
            x.tick(3);
            due("DONE by the lie", x.about(want, 0), DONE);
            due("the first byte", x.byteOf(want, 0), lie[1]);
            due("the second byte", x.byteOf(want, 1), lie[0]);
        }
        FetchRules y = new FetchRules(0);
        int late = placeWith(y, 0, 1, 4, 4);
        int want = begunFrom(y, digestOf(4, 4), late);
        y.tick(1);
        y.does(late, 3, 1);
        y.tick(1);
        due("a lie behind the first byte is none", y.about(want, 0), DONE);
    }

    private static void liesWithoutAByte() {
        terms("(if it has one)");
        FetchRules x = new FetchRules(0);
        int place = x.place(0, 1);
        x.does(place, 3, 1);
        int want = begunFrom(x, 0, place);
        x.tick(1);
        due("DONE", x.about(want, 0), DONE);
        due("no bytes", x.about(want, 2), 0);
    }

    // ---- the TURN: CUT

    private static void cutGivesAtMostAsManyAsTold() {
        terms("it gives at most so many bytes as told");
        int[] told = {0, 1, 4, 5, 6, 100};
        int[] given = {0, 1, 4, 5, 5, 5};
        for (int i = 0; i < told.length; i++) {
            FetchRules x = new FetchRules(1);
            int place = placeWith(x, 0, 5, upTo(20));
            x.cut(place, 1, told[i]);
            begunFrom(x, 99, place);
            x.tick(1);
            due("CUT to " + told[i] + " by a RATE of 5", x.about(0, 2), given[i]);
            due("WAITS", x.about(0, 0), WAITS);
            x.tick(1);
            due("the next one isn't CUT", x.about(0, 2), given[i] + 5);
            due("and FETCHES", x.about(0, 0), FETCHES);
        }
    }

    private static void cutWithAllThenDoesNotFalter() {
        terms("and the WANT FALTERS, if it hasn't all then");
        for (int bytes = 2; bytes <= 4; bytes++) {
            FetchRules x = new FetchRules(1);
            int place = placeWith(x, 0, 50, 1, 2, 3);
            x.cut(place, 1, bytes);
            int want = begunFrom(x, digestOf(1, 2, 3), place);
            x.tick(1);
            due("CUT to " + bytes + " of 3", x.about(want, 0), bytes < 3 ? WAITS : DONE);
        }
        FetchRules y = new FetchRules(1);
        int empty = y.place(0, 1);
        y.cut(empty, 1, 0);
        int none = begunFrom(y, 0, empty);
        y.tick(1);
        due("all of none", y.about(none, 0), DONE);
    }

    private static void cutStillIsAnAnswer() {
        terms("If it is CUT still: that was an answer");
        FetchRules x = new FetchRules(5);
        int place = placeWith(x, 0, 50, 1, 2, 3);
        x.cut(place, 2, 1);
        int first = begunFrom(x, digestOf(1, 2, 3), place);
        int second = begunFrom(x, digestOf(1, 2, 3), place);
        int third = begunFrom(x, digestOf(1, 2, 3), place);
        x.tick(1);
        due("the first answer is CUT", x.about(first, 0), WAITS);
        due("the second too, of another WANT", x.about(second, 0), WAITS);
        due("the third isn't", x.about(third, 0), DONE);

        FetchRules y = new FetchRules(5);
        int all = placeWith(y, 0, 50, 1);
        y.cut(all, 1, 1);
        begunFrom(y, digestOf(1), all);
        y.tick(1);
        y.content(all, 2, 1);
        int next = begunFrom(y, digestOf(1, 2), all);
        y.tick(1);
        due("one that gave all was an answer too", y.about(next, 0), DONE);
    }

    private static void placesThatGiveNothingAreNotCut() {
        terms("Else that PLACE gives bytes of its CONTENT");
        FetchRules x = new FetchRules(5);
        int place = placeWith(x, 0, 50, 1, 2);
        int other = placeWith(x, 0, 50, 3);
        x.cut(place, 1, 1);
        int[] kinds = {0, 2, 1};
        for (int kind : kinds) {
            x.does(place, kind, kind == 1 ? other : 1);
            begunFrom(x, digestOf(3), place);
            x.tick(1);
            x.does(place, kind, kind == 1 ? NONE : 0);
        }
        int want = begunFrom(x, digestOf(1, 2), place);
        x.tick(1);
        due("CUT still", x.about(want, 0), WAITS);
        due("to one byte", x.about(want, 2), 1);
    }

    // ---- the TURN: who is asked

    /** PLACES 0 .. n, each LEADING to the next, on the HOSTS as told; the last has the byte 5; WANT 0 begins at 0. */
    private static FetchRules chain(int... hosts) {
        FetchRules x = new FetchRules(0);
        for (int host : hosts) {
            x.place(host, 50);
        }
        for (int i = 1; i < hosts.length; i++) {
            x.does(i - 1, 1, i);
        }
        x.content(hosts.length - 1, 5, 1);
        begunFrom(x, digestOf(5), 0);
        return x;
    }

    private static void credentialIsThatOfTheTurn() {
        terms("It ASKS its PLACE P, with a CREDENTIAL if P's HOST has one");
        FetchRules x = new FetchRules(0);
        int place = placeWith(x, 6, 1, 1, 2, 3);
        x.does(place, 2, 1);
        x.credential(6, true);
        int want = begunFrom(x, digestOf(1, 2, 3), place);
        x.credential(6, false);
        x.tick(1);
        due("none at the TURN, though one at BEGINNING", x.about(want, 0), FAILED);
        x.begin(want);
        x.credential(6, true);
        x.tick(2);
        due("one at the TURN, though none at BEGINNING", x.about(want, 2), 2);
        x.credential(6, false);
        x.tick(1);
        due("none at the third TURN", x.about(want, 0), FAILED);
        due("sent twice", x.sent(6), 2);
    }

    private static void threeLeadsAreNotTooFar() {
        terms("As long as the PLACE that is asked LEADS to another one (and isn't GONE), that one is asked");
        int[][] chains = {{0}, {0, 1}, {0, 1, 2}, {0, 1, 2, 3}};
        for (int[] hosts : chains) {
            FetchRules x = chain(hosts);
            x.tick(1);
            due("by " + (hosts.length - 1) + " leads", x.about(0, 0), DONE);
        }
    }

    private static void fourthLeadIsTooFar() {
        terms("the fourth such time is TOO FAR: GIVEN UP");
        FetchRules x = chain(0, 1, 2, 3, 4);
        x.tick(1);
        due("by 4 leads", x.about(0, 0), FAILED);
        due("none is BARRED", x.barred(0, 1), NONE);
        FetchRules y = chain(0, 1, 2, 3, 4, 5);
        y.tick(1);
        due("by 5 leads", y.about(0, 0), FAILED);
        FetchRules z = chain(0, 0);
        z.does(1, 1, 0);
        due("round and round", z.tick(1), 0);
        due("FAILED", z.about(0, 0), FAILED);
    }

    private static void goneOnesDoNotLead() {
        terms("LEADS to another one (and isn't GONE)");
        FetchRules x = chain(0, 1);
        x.does(0, 0, 1);
        x.tick(1);
        due("GONE, though it would LEAD", x.about(0, 0), FAILED);
        FetchRules y = chain(0, 1, 2, 3, 4);
        y.credential(0, true);
        y.does(0, 0, 1);
        y.tick(1);
        due("asked itself all the same", y.sent(0), 1);
    }

    private static void goneOnesThatAreLedTo() {
        terms("If the PLACE that is asked last is GONE");
        for (int gone = 0; gone < 4; gone++) {
            FetchRules x = chain(0, 1, 2, 3);
            x.does(gone, 0, 1);
            x.tick(1);
            due("GONE is " + gone, x.about(0, 0), FAILED);
            due("none is BARRED", x.barred(0, 0), NONE);
        }
        FetchRules y = chain(0, 1, 2, 3, 4);
        y.does(4, 0, 1);
        y.does(3, 0, 1);
        y.tick(1);
        due("GONE before it is TOO FAR", y.about(0, 0), FAILED);
    }

    private static void credentialIsNotSentOnToAnotherHost() {
        terms("The CREDENTIAL isn't sent on any more as soon as another HOST is asked than before");
        int[][] chains = {{1, 1, 1, 1}, {1, 1, 1, 2}, {1, 2, 2, 2}, {1, 2, 1, 1}, {2, 1, 1, 1}, {1, 1, 2, 1}};
        int[] toFirst = {4, 3, 1, 1, 0, 2};
        int[] toSecond = {0, 0, 0, 0, 1, 0};
        for (int i = 0; i < chains.length; i++) {
            FetchRules x = chain(chains[i]);
            x.credential(1, true);
            x.credential(2, true);
            x.does(3, 2, 1);
            x.tick(1);
            due("sent to 1", x.sent(1), toFirst[i]);
            due("sent to 2", x.sent(2), toSecond[i]);
            due("the last WANTS one", x.about(0, 0), i == 0 ? DONE : FAILED);
        }
        FetchRules none = chain(3, 1);
        none.credential(1, true);
        none.does(1, 2, 1);
        none.tick(1);
        due("none where the first HOST has none", none.about(0, 0), FAILED);
        due("sent to 1", none.sent(1), 0);
    }

    private static void credentialIsWantedByTheLastAlone() {
        terms("or WANTS a CREDENTIAL and none is sent: GIVEN UP");
        FetchRules x = chain(0, 1);
        x.does(0, 2, 1);
        x.tick(1);
        due("one that LEADS on isn't the last", x.about(0, 0), DONE);
        FetchRules y = chain(0, 1);
        y.does(1, 2, 1);
        y.tick(1);
        due("the last one is", y.about(0, 0), FAILED);
        due("none is BARRED", y.barred(0, 0), NONE);
        FetchRules z = chain(0);
        z.credential(0, true);
        z.tick(1);
        due("one that WANTS none gets it", z.sent(0), 1);
        due("and gives", z.about(0, 0), DONE);
    }

    private static void barredOnesAreAskedIfLedTo() {
        terms("(BARRED ones are asked, if they are led to.)");
        FetchRules x = new FetchRules(0);
        int bad = placeWith(x, 0, 50, 5);
        begunFrom(x, 99, bad);
        x.tick(1);
        due("BARRED", x.barred(0, 1), bad);
        int lead = x.place(0, 50);
        x.does(lead, 1, bad);
        int want = begunFrom(x, digestOf(5), bad, lead);
        due("not from the BARRED one", x.about(want, 1), lead);
        x.tick(1);
        due("but by way of it", x.about(want, 0), DONE);
    }

    // ---- the TURN: the DIGEST

    private static void rightDigestIsDoneAndKept() {
        terms("the right one: DONE, the row is KEPT");
        FetchRules x = new FetchRules(0);
        int place = placeWith(x, 0, 50, upTo(100));
        begunFrom(x, digestOf(upTo(100)), place);
        x.tick(2);
        x.does(place, 0, 1);
        x.offLine(true);
        int again = x.want(digestOf(upTo(100)));
        due("a full row", x.begin(again), DONE);
        due("with all bytes", x.about(again, 2), 100);
        due("the last", x.byteOf(again, 99), 100);
        FetchRules y = new FetchRules(0);
        begunFrom(y, 0, y.place(0, 1));
        y.tick(1);
        y.offLine(true);
        due("an empty row", y.begin(y.want(0)), DONE);
    }

    private static void rowsAreKeptByTheirDigests() {
        terms("KEPT are rows of bytes by their DIGESTS");
        FetchRules x = new FetchRules(0);
        for (int i = 0; i < 10; i++) {
            begunFrom(x, digestOf(i + 1, i), placeWith(x, 0, 50, i + 1, i));
        }
        due("ten rows", x.tick(1), 0);
        x.offLine(true);
        for (int i = 9; i >= 0; i--) {
            due("begin(" + i + ")", x.begin(i), DONE);
            due("its first byte", x.byteOf(i, 0), i + 1);
            due("its second byte", x.byteOf(i, 1), i);
        }
    }

    private static void anotherOfThatDigestStays() {
        terms("(unless another one of that DIGEST is: that stays)");
        FetchRules x = new FetchRules(0);
        int one = begunFrom(x, 0, placeWith(x, 0, 50, 0));
        int two = begunFrom(x, 0, placeWith(x, 0, 50, 0, 0));
        x.tick(1);
        due("the first has its own", x.about(one, 2), 1);
        due("the second has its own", x.about(two, 2), 2);
        int third = begunFrom(x, 0);
        due("the first is KEPT", x.about(third, 2), 1);
        x.begin(two);
        due("and used for the second, when it begins again", x.about(two, 2), 1);
    }

    private static void wrongDigestIsBarred() {
        terms("Else P is BARRED, and told: the WANT, P, the DIGEST that came; GIVEN UP");
        FetchRules x = new FetchRules(0);
        int bad = placeWith(x, 0, 50, 1);
        int good = placeWith(x, 0, 50, 2);
        int want = begunFrom(x, digestOf(2), bad, good);
        x.tick(1);
        due("the WANT", x.barred(0, 0), want);
        due("P", x.barred(0, 1), bad);
        due("the DIGEST that came", x.came(0), digestOf(1));
        due("GIVEN UP", x.about(want, 1), good);
        due("what came isn't KEPT", x.begin(x.want(digestOf(1))), FAILED);
    }

    private static void digestIsLookedAtInFull() {
        terms("in 32 bits");
        int right = digestOf(1, 2);
        for (int bit = 0; bit < 32; bit++) {
            FetchRules x = new FetchRules(0);
            begunFrom(x, right ^ 1 << bit, placeWith(x, 0, 50, 1, 2));
            x.tick(1);
            due("another one by bit " + bit, x.about(0, 0), FAILED);
        }
    }

    // ---- the TURN: FALTERING

    /** PLACES 0 and 1 that give nothing for nine answers; WANT 0 begins with both. */
    private static FetchRules faltering(int retries) {
        FetchRules x = new FetchRules(retries);
        for (int i = 0; i < 2; i++) {
            x.cut(placeWith(x, 0, 50, 1, 2), 9, 0);
        }
        begunFrom(x, digestOf(1, 2), 0, 1);
        return x;
    }

    private static void falteringWaitsOneTwoFour() {
        terms("it WAITS 1, 2, 4, .. turns of the CLOCK (till CLOCK and that many)");
        FetchRules x = faltering(5);
        int[] tills = {2, 4, 8, 16, 32};
        int clock = 0;
        for (int i = 0; i < tills.length; i++) {
            int now = i == 0 ? 1 : tills[i - 1];
            x.tick(now - clock);
            clock = now;
            due("at " + clock + " it WAITS", x.about(0, 0), WAITS);
            due("till", x.about(0, 3), tills[i]);
        }
        x.tick(15);
        due("at 31 it WAITS", x.about(0, 0), WAITS);
        x.tick(1);
        due("at 32 it is GIVEN UP", x.about(0, 1), 1);
    }

    private static void falteringWithNoRetries() {
        terms("as often as RETRIES (0 .. 5) say, for a WANT at a PLACE of it");
        FetchRules x = faltering(0);
        x.tick(1);
        due("GIVEN UP at once", x.about(0, 1), 1);
        due("FETCHES", x.about(0, 0), FETCHES);
        x.tick(1);
        due("FAILED", x.about(0, 0), FAILED);
        due("none is BARRED", x.barred(0, 0), NONE);
    }

    private static void falteringAtEachPlaceAnew() {
        terms("for a WANT at a PLACE of it");
        FetchRules x = faltering(1);
        int other = begunFrom(x, digestOf(1, 2), 0);
        x.tick(1);
        due("it WAITS", x.about(0, 3), 2);
        due("another WANT for itself", x.about(other, 3), 2);
        x.tick(1);
        due("GIVEN UP", x.about(0, 1), 1);
        x.tick(1);
        due("1 turn again at the next", x.about(0, 3), 4);
        x.tick(1);
        due("FAILED", x.about(0, 0), FAILED);
        x.begin(0);
        x.tick(1);
        due("1 turn again behind a new BEGINNING", x.about(0, 3), 6);
    }

    private static void falteringGoesOnWithItsBytes() {
        terms("and goes on with the bytes it has");
        FetchRules x = new FetchRules(2);
        int place = placeWith(x, 0, 50, 1, 2, 3);
        x.cut(place, 2, 1);
        int want = begunFrom(x, digestOf(1, 2, 3), place);
        x.tick(1);
        due("one byte", x.about(want, 2), 1);
        x.tick(1);
        due("one more", x.about(want, 2), 2);
        due("the second", x.byteOf(want, 1), 2);
        x.tick(2);
        due("and all", x.about(want, 0), DONE);
    }

    private static void falteringBehindAWholeAnswer() {
        terms("as often as RETRIES (0 .. 5) say");
        FetchRules x = new FetchRules(2);
        int place = placeWith(x, 0, 1, upTo(9));
        int want = begunFrom(x, digestOf(upTo(9)), place);
        int[] tills = {2, 5};
        for (int till : tills) {
            x.cut(place, 1, 0);
            x.tick(1);
            due("it WAITS", x.about(want, 3), till);
            x.tick(till == 2 ? 1 : 2);
            due("it FETCHES", x.about(want, 0), FETCHES);
        }
        x.cut(place, 1, 0);
        x.tick(1);
        due("the third time: FAILED", x.about(want, 0), FAILED);
    }

    private static void falteringOnceTooOften() {
        terms("then: GIVEN UP");
        for (int retries = 0; retries <= 5; retries++) {
            FetchRules x = faltering(retries);
            int last = 1 << retries;
            x.tick(last - 1);
            due("before CLOCK " + last, x.about(0, 1), 0);
            x.tick(1);
            due("at CLOCK " + last, x.about(0, 1), 1);
            due("FETCHES", x.about(0, 0), FETCHES);
            due("TURNS", x.about(0, 4), retries + 1);
        }
    }

    // ---- the TURN: GIVEN UP

    private static void givenUpToTheNextThatIsNotBarred() {
        terms("it FETCHES from the next of its PLACES, behind P, that isn't BARRED");
        for (int n = 0; n <= 5; n++) {
            FetchRules x = withBarred(n);
            int gone = x.place(0, 1);
            x.does(gone, 0, 1);
            int want = begunFrom(x, 72, gone, 0, 1, 2, 3, 4);
            x.tick(1);
            due("with " + n + " BARRED", x.about(want, 1), n < 5 ? n : NONE);
            due("what it is then", x.about(want, 0), n < 5 ? FETCHES : FAILED);
        }
    }

    private static void givenUpWithNoBytesAndNoTurn() {
        terms("with no bytes, from the next turn of the CLOCK on");
        FetchRules x = new FetchRules(0);
        int first = placeWith(x, 0, 50, 1, 2, 3);
        int second = placeWith(x, 0, 1, 1, 2);
        x.cut(first, 1, 2);
        int want = begunFrom(x, digestOf(1, 2), first, second);
        x.tick(1);
        due("no bytes", x.about(want, 2), 0);
        due("no byte", x.byteOf(want, 0), NONE);
        due("one TURN", x.about(want, 4), 1);
        x.tick(1);
        due("one byte of the next", x.about(want, 2), 1);
        due("two TURNS", x.about(want, 4), 2);
    }

    private static void givenUpBehindTheLast() {
        terms("if there is none, it has FAILED");
        FetchRules x = new FetchRules(0);
        for (int i = 0; i < 6; i++) {
            x.does(x.place(0, 1), 0, 1);
        }
        int want = begunFrom(x, 1, 0, 1, 2, 3, 4, 5);
        due("the sixth is left", x.tick(5), 1);
        due("its PLACE", x.about(want, 1), 5);
        due("none is left", x.tick(1), 0);
        due("FAILED", x.about(want, 0), FAILED);
        due("it doesn't LACK", x.lacks(0), NONE);
        due("six TURNS", x.about(want, 4), 6);
        x.tick(50);
        due("no TURN more", x.about(want, 4), 6);
    }

    // ---- Promise 13

    private static void aboutWantsThatAreNot() {
        promise(13, "NONE if there is none such");
        for (int want : joined(FAR_OUT, -1, 6, 10)) {
            for (int what = 0; what <= 4; what++) {
                int asked = what;
                refused("about(" + want + ", " + what + ")", NONE, Twins::furnished, x -> x.about(want, asked));
            }
        }
    }

    private static void aboutAnotherWhat() {
        promise(13, "or for another what");
        for (int i = 0; i < 6; i++) {
            int want = i;
            for (int what : joined(FAR_OUT, -1, 5)) {
                refused("about(" + want + ", " + what + ")", NONE, Twins::furnished, x -> x.about(want, what));
            }
        }
    }

    private static void dueAbout(FetchRules x, int want, int... answers) {
        for (int what = 0; what < answers.length; what++) {
            due("about(" + want + ", " + what + ")", x.about(want, what), answers[what]);
        }
    }

    private static void aboutEachState() {
        terms("A WANT is IDLE (0), FETCHES (1), WAITS (2), is DONE (3), or has FAILED (4)");
        dueEachState();
        promise(13, "0 what it is, 1 its PLACE (while it FETCHES or WAITS), 2 how many bytes it has, 3 till when it WAITS");
        dueEachState();
    }

    private static void dueEachState() {
        FetchRules x = furnished();
        dueAbout(x, 0, DONE, NONE, 11, NONE, 1);
        dueAbout(x, 1, FAILED, NONE, 0, NONE, 2);
        dueAbout(x, 2, WAITS, 2, 1, 4, 1);
        dueAbout(x, 3, FETCHES, 0, 2, NONE, 1);
        dueAbout(x, 4, IDLE, NONE, 0, NONE, 0);
        dueAbout(x, 5, FAILED, NONE, 0, NONE, 0);
    }

    private static void aboutWhatIsNotSo() {
        promise(13, "NONE if there is none such, it isn't so");
        FetchRules x = furnished();
        int[] notAtAPlace = {0, 1, 4, 5};
        for (int want : notAtAPlace) {
            due("its PLACE, " + want, x.about(want, 1), NONE);
        }
        int[] notWaiting = {0, 1, 3, 4, 5};
        for (int want : notWaiting) {
            due("till when, " + want, x.about(want, 3), NONE);
        }
        x.tick(1);
        x.cut(1, 0, 0);
        x.tick(2);
        due("one that WAITED is DONE", x.about(2, 0), DONE);
        due("its PLACE no more", x.about(2, 1), NONE);
        due("till no more", x.about(2, 3), NONE);
    }

    private static void aboutTurnsInAll() {
        promise(13, "4 how many TURNS it had in all");
        FetchRules x = new FetchRules(0);
        int gone = x.place(0, 1);
        x.does(gone, 0, 1);
        int want = wantFrom(x, 1, gone);
        for (int i = 1; i <= 20; i++) {
            x.begin(want);
            x.tick(2);
            due("TURNS by " + i + " beginnings", x.about(want, 4), i);
        }
    }

    private static void aboutMostBytes() {
        promise(13, "2 how many bytes it has");
        FetchRules x = new FetchRules(0);
        begunFrom(x, digestOf(times(100, 255)), placeWith(x, 0, 1, times(100, 255)));
        x.tick(50);
        due("50 of 100", x.about(0, 2), 50);
        x.tick(49);
        due("99 of 100", x.about(0, 2), 99);
        due("not DONE yet", x.about(0, 0), FETCHES);
        x.tick(1);
        due("100 of 100", x.about(0, 2), 100);
        due("DONE", x.about(0, 0), DONE);
    }

    /** As late as 512 calls can bring it. */
    private static void aboutALateClock() {
        promise(13, "3 till when it WAITS");
        FetchRules x = new FetchRules(5);
        int place = x.place(0, 1);
        x.content(place, 1, 1);
        int want = wantFrom(x, digestOf(1), place);
        x.cut(place, 9, 0);
        for (int i = 0; i < 503; i++) {
            x.tick(50);
        }
        x.begin(want);
        x.tick(1);
        due("till", x.about(want, 3), 503 * 50 + 2);
        due("tick", x.tick(1), 1);
    }

    // ---- Promise 14

    private static void byteOfJustInsideAndOutside() {
        promise(14, "A byte that a WANT has; NONE if there is none");
        FetchRules x = doneWith(times(100, 255));
        due("the first", x.byteOf(0, 0), 255);
        due("the last", x.byteOf(0, 99), 255);
        FetchRules y = doneWith(0, 128, 255);
        int[] bytes = {0, 128, 255};
        for (int i = 0; i < 3; i++) {
            due("byteOf(0, " + i + ")", y.byteOf(0, i), bytes[i]);
        }
        for (int i : joined(FAR_OUT, -1, 100, 101)) {
            due("byteOf(0, " + i + ") of 100", x.byteOf(0, i), NONE);
        }
        for (int i : joined(FAR_OUT, -1, 3, 99, 100)) {
            due("byteOf(0, " + i + ") of 3", y.byteOf(0, i), NONE);
        }
        for (int i : joined(FAR_OUT, -1, 11, 100)) {
            refused("byteOf(0, " + i + ") of 11", NONE, Twins::furnished, z -> z.byteOf(0, i));
        }
    }

    private static void byteOfWantsThatAreNot() {
        promise(14, "NONE if there is none");
        for (int want : joined(FAR_OUT, -1, 6, 10)) {
            refused("byteOf(" + want + ", 0)", NONE, Twins::furnished, x -> x.byteOf(want, 0));
        }
    }

    private static void byteOfNoBytes() {
        promise(14, "NONE if there is none");
        FetchRules x = new FetchRules(0);
        int want = wantFrom(x, 0, x.place(0, 1));
        due("IDLE", x.byteOf(want, 0), NONE);
        x.begin(want);
        due("FETCHES", x.byteOf(want, 0), NONE);
        x.tick(1);
        due("DONE with none", x.byteOf(want, 0), NONE);
        FetchRules y = doneWith(1, 2);
        y.begin(wantFrom(y, 99, placeWith(y, 0, 1, 8, 9)));
        y.tick(1);
        due("the one byte by now", y.byteOf(1, 0), 8);
        due("the next is still to come", y.byteOf(1, 1), NONE);
    }

    // ---- Promises 15 and 16

    private static FetchRules withOneTold(int bytes) {
        FetchRules x = new FetchRules(0);
        x.place(0, 1);
        x.want(0);
        begunFrom(x, 99, placeWith(x, 0, 50, upTo(bytes)));
        x.tick(1);
        return x;
    }

    private static void barredJustInsideAndOutside() {
        promise(15, "0 the WANT, 1 the PLACE; NONE if there is none such");
        FetchRules x = withOneTold(2);
        due("barred(0, 0)", x.barred(0, 0), 1);
        due("barred(0, 1)", x.barred(0, 1), 1);
        for (int i : joined(FAR_OUT, -1, 1, 60)) {
            due("barred(" + i + ", 0)", x.barred(i, 0), NONE);
            due("barred(" + i + ", 1)", x.barred(i, 1), NONE);
            refused("barred(" + i + ", 0)", NONE, Twins::furnished, y -> y.barred(i, 0));
            refused("barred(" + i + ", 1)", NONE, Twins::furnished, y -> y.barred(i, 1));
        }
    }

    private static void barredAnotherWhat() {
        promise(15, "or for another what");
        FetchRules x = withOneTold(2);
        for (int what : joined(FAR_OUT, -1, 2)) {
            due("barred(0, " + what + ")", x.barred(0, what), NONE);
            refused("barred(0, " + what + ")", NONE, Twins::furnished, y -> y.barred(0, what));
        }
    }

    private static void cameJustInsideAndOutside() {
        promise(16, "The DIGEST that came then; 0 if there is none such");
        FetchRules x = withOneTold(2);
        due("came(0)", x.came(0), digestOf(1, 2));
        for (int i : joined(FAR_OUT, -1, 1, 60)) {
            due("came(" + i + ")", x.came(i), 0);
            refused("came(" + i + ")", 0, Twins::furnished, y -> y.came(i));
        }
    }

    private static void cameZeroAndBelow() {
        promise(16, "The DIGEST that came then");
        FetchRules none = withOneTold(0);
        due("the DIGEST of the empty row", none.came(0), 0);
        due("was told all the same", none.barred(0, 0), 1);
        due("a DIGEST below 0", withOneTold(1).came(0), -1116123424);
    }

    private static void toldAsOftenAsCanBe() {
        promise(15, "Of the i-th time that a PLACE was told to be BARRED");
        FetchRules x = new FetchRules(0);
        for (int i = 0; i < 6; i++) {
            placeWith(x, 0, 50, i + 1);
        }
        for (int w = 0; w < 10; w++) {
            begunFrom(x, 1000 + w, 0, 1, 2, 3, 4, 5);
        }
        due("each WANT at each PLACE", x.tick(6), 0);
        for (int i = 0; i < 60; i++) {
            due("barred(" + i + ", 0)", x.barred(i, 0), i % 10);
            due("barred(" + i + ", 1)", x.barred(i, 1), i / 10);
            due("came(" + i + ")", x.came(i), digestOf(i / 10 + 1));
        }
        due("barred(60, 0)", x.barred(60, 0), NONE);
        due("came(60)", x.came(60), 0);
        due("none comes back", x.begin(0), FAILED);
    }

    // ---- Promise 17

    private static void lacksJustInsideAndOutside() {
        promise(17, "NONE if there is none such");
        FetchRules x = furnished();
        due("lacks(0)", x.lacks(0), 5);
        for (int i : joined(FAR_OUT, -1, 1, 10)) {
            refused("lacks(" + i + ")", NONE, Twins::furnished, y -> y.lacks(i));
        }
    }

    private static void lacksAllTen() {
        promise(17, "by the order of BEGINNING");
        FetchRules x = new FetchRules(0);
        for (int i = 0; i < 10; i++) {
            x.want(i);
        }
        x.offLine(true);
        for (int i = 0; i < 10; i++) {
            x.begin(9 - i);
        }
        for (int i = 0; i < 10; i++) {
            due("lacks(" + i + ")", x.lacks(i), 9 - i);
        }
        due("lacks(10)", x.lacks(10), NONE);
    }

    private static void lacksEachOnce() {
        promise(17, "(each once, by the order of BEGINNING)");
        FetchRules x = new FetchRules(0);
        for (int i = 0; i < 3; i++) {
            x.want(i);
        }
        x.offLine(true);
        int[] begins = {2, 0, 2, 0, 1, 2};
        for (int want : begins) {
            due("begin(" + want + ")", x.begin(want), FAILED);
        }
        int[] once = {2, 0, 1, NONE};
        for (int i = 0; i < once.length; i++) {
            due("lacks(" + i + ")", x.lacks(i), once[i]);
        }
    }

    private static void lacksSinceTheLatestOffLine() {
        promise(17, "that LACKS since the latest offLine");
        boolean[] nexts = {true, false};
        for (boolean next : nexts) {
            FetchRules x = new FetchRules(0);
            x.want(1);
            x.want(2);
            x.offLine(true);
            x.begin(0);
            x.begin(1);
            due("lacks(1)", x.lacks(1), 1);
            x.offLine(next);
            due("behind offLine(" + next + ")", x.lacks(0), NONE);
            x.offLine(true);
            x.begin(1);
            due("anew", x.lacks(0), 1);
            due("no more", x.lacks(1), NONE);
        }
    }

    private static void lacksNotForOtherFailures() {
        promise(17, "that LACKS");
        FetchRules x = new FetchRules(0);
        int gone = x.place(0, 1);
        x.does(gone, 0, 1);
        int fails = begunFrom(x, 1, gone);
        x.offLine(true);
        x.tick(1);
        due("FAILED by its PLACE while OFF-LINE", x.about(fails, 0), FAILED);
        due("it doesn't LACK", x.lacks(0), NONE);
        due("a refused begin", x.begin(5), NONE);
        due("doesn't LACK", x.lacks(0), NONE);
    }

    // ---- Promise 18

    private static void sentToHostsThatAreNot() {
        promise(18, "0 if there is none such");
        for (int host : joined(FAR_OUT, -1, 8)) {
            refused("sent(" + host + ")", 0, Twins::furnished, x -> x.sent(host));
        }
    }

    private static void sentOnceForEachPlaceAsked() {
        promise(18, "(once for each PLACE that was asked with one)");
        int[] lengths = {1, 2, 3, 4, 5, 6};
        // The fourth LEADING is TOO FAR, so that no fifth PLACE is asked.
        int[] asked = {1, 2, 3, 4, 4, 4};
        for (int i = 0; i < lengths.length; i++) {
            FetchRules x = chain(new int[lengths[i]]);
            x.credential(0, true);
            x.tick(1);
            due("sent in a chain of " + lengths[i], x.sent(0), asked[i]);
        }
        FetchRules gone = chain(0, 0);
        gone.credential(0, true);
        gone.does(1, 0, 1);
        gone.tick(1);
        due("a GONE one was asked too", gone.sent(0), 2);
    }

    private static void sentToFirstAndLastHost() {
        promise(18, "How many CREDENTIALS were sent to PLACES of a HOST");
        FetchRules x = new FetchRules(0);
        x.credential(0, true);
        x.credential(7, true);
        begunFrom(x, 1, x.place(0, 1));
        begunFrom(x, 1, x.place(7, 1));
        begunFrom(x, 1, x.place(3, 1));
        x.tick(1);
        for (int host = 0; host < 8; host++) {
            due("sent(" + host + ")", x.sent(host), host == 0 || host == 7 ? 1 : 0);
        }
        x.credential(0, false);
        due("what was sent stays", x.sent(0), 1);
    }

    private static void sentAsOftenAsCanBe() {
        promise(18, "How many CREDENTIALS were sent");
        FetchRules x = new FetchRules(0);
        x.credential(0, true);
        int slow = placeWith(x, 0, 1, upTo(100));
        for (int i = 0; i < 3; i++) {
            x.does(x.place(0, 1), 1, i);
        }
        for (int i = 0; i < 10; i++) {
            begunFrom(x, digestOf(upTo(100)), 3);
        }
        x.tick(50);
        due("50 bytes by way of three", x.about(9, 2), 50);
        due("4 a TURN, of ten WANTS, 50 times", x.sent(0), 4 * 10 * 50);
        due("the giver's own", x.digest(slow), digestOf(upTo(100)));
    }
}
