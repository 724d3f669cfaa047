/** Promises 1 to 9 and the terms that they speak of: a test of its own for each boundary case that a sentence names. */
public final class FetchRulesBoundsOfBuilding extends Twins {
    private static final int[] FAR_OUT = {LOW, LOW + 1, -1000, 1000, HIGH - 1, HIGH};

    public static void main(String[] args) {
        noneIsMinusOne();
        newObjectHasNoPlaces();
        newObjectHasNoWants();
        newObjectKeepsNothing();
        newObjectHasNoCredentials();
        newObjectTellsNothing();
        newObjectIsNotOffLine();
        newObjectHasItsClockAt0();
        objectsShareNothing();
        retriesBelowTheRangeAreNone();
        retriesAboveTheRangeAreFive();
        retriesWithinTheRangeAreAsTold();

        firstAndLastHostMayHaveACredential();
        hostsBesideTheRangeAreRefused();
        credentialOnIsOn();
        credentialOffIsOff();
        credentialOnTwiceIsOnOnce();
        credentialIsOfItsHostAlone();

        sixteenPlacesAreNumberedFrom0();
        seventeenthPlaceIsRefused();
        hostOfAPlaceJustInside();
        hostOfAPlaceJustOutside();
        rateJustInside();
        rateJustOutside();
        refusedPlaceTakesNoNumber();
        newPlaceIsEmpty();
        newPlaceDoesNothingElse();

        oneByteIsTheLowest();
        eightBytesAreTheWholeNumber();
        eachCountOfBytesTakesTheLowest();
        bytesComeAtTheEnd();
        noContentForPlacesThatAreNot();
        noContentWithACountThatIsNotSo();
        contentUpTo100Bytes();
        contentThatFillsExactly();
        contentWithoutRoomComesNotEvenInPart();
        contentOfAnotherPlaceHasItsOwnRoom();

        goneByAnyNumberBut0();
        leadsToTheFirstAndTheLastPlace();
        leadsToNone();
        leadsToItself();
        leadsNowhereElse();
        refusedLeadLeavesTheOneBefore();
        wantsByAnyNumberBut0();
        liesByAnyNumberBut0();
        noOtherKinds();
        nothingDoneByPlacesThatAreNot();
        whatAPlaceDoesIsToldApart();

        cutTimesJustInside();
        cutTimesJustOutside();
        cutBytesJustInside();
        cutBytesJustOutside();
        noCutOfPlacesThatAreNot();
        refusedCutLeavesTheOneBefore();
        laterCutTakesThePlaceOfTheEarlier();

        digestOfAnEmptyRow();
        digestOfOneByte();
        digestWrapsAround();
        digestOfAFullRow();
        digestTakesTheBytesInTurn();
        digestIsWithoutLying();
        noDigestOfPlacesThatAreNot();

        tenWantsAreNumberedFrom0();
        eleventhWantIsRefused();
        newWantIsIdle();
        digestOfAWantMayBeAnyNumber();

        sixPlacesOfAWantInOrder();
        seventhPlaceOfAWantIsRefused();
        placeThatIsThereIsRefused();
        noPlacesForWantsThatAreNot();
        noPlacesThatAreNot();
        noPlacesForWantsThatAreNotIdle();
        lastPlaceOfSixteenForTheLastWantOfTen();
        end();
    }

    private static void noneIsMinusOne() {
        terms("`NONE = -1`: None");
        due("NONE", FetchRules.NONE, -1);
    }

    // ---- Promise 1

    private static void newObjectHasNoPlaces() {
        promise(1, "No PLACES");
        FetchRules x = new FetchRules(0);
        x.want(0);
        due("content(0, 1, 1)", x.content(0, 1, 1), false);
        due("does(0, 0, 1)", x.does(0, 0, 1), false);
        due("does(0, 1, NONE)", x.does(0, 1, NONE), false);
        due("cut(0, 1, 1)", x.cut(0, 1, 1), false);
        due("digest(0)", x.digest(0), 0);
        due("from(0, 0)", x.from(0, 0), false);
        due("the first PLACE", x.place(0, 1), 0);
    }

    private static void newObjectHasNoWants() {
        promise(1, "no WANTS");
        FetchRules x = new FetchRules(0);
        x.place(0, 1);
        due("from(0, 0)", x.from(0, 0), false);
        due("begin(0)", x.begin(0), NONE);
        for (int what = 0; what <= 4; what++) {
            due("about(0, " + what + ")", x.about(0, what), NONE);
        }
        due("byteOf(0, 0)", x.byteOf(0, 0), NONE);
        due("unpack(0, 0)", x.unpack(0, 0), -1000);
        due("tick(50)", x.tick(50), 0);
        due("the first WANT", x.want(0), 0);
    }

    private static void newObjectKeepsNothing() {
        promise(1, "nothing KEPT");
        FetchRules x = new FetchRules(0);
        // 0 is the DIGEST of the empty row and that of a field nobody has set.
        due("begin", x.begin(x.want(0)), FAILED);
        x.offLine(true);
        due("begin OFF-LINE", x.begin(x.want(0)), FAILED);
        due("it LACKS", x.lacks(0), 1);
    }

    private static void newObjectHasNoCredentials() {
        promise(1, "A new object");
        FetchRules x = new FetchRules(0);
        for (int host = 0; host < 8; host++) {
            int place = x.place(host, 1);
            x.does(place, 2, 1);
            int want = begunFrom(x, 0, place);
            x.tick(1);
            due("a WANT at HOST " + host, x.about(want, 0), FAILED);
            due("sent(" + host + ")", x.sent(host), 0);
        }
    }

    private static void newObjectTellsNothing() {
        promise(1, "A new object");
        FetchRules x = new FetchRules(5);
        for (int what = 0; what <= 3; what++) {
            due("barred(0, " + what + ")", x.barred(0, what), NONE);
            due("file(0, " + what + ")", x.file(0, what), NONE);
        }
        due("came(0)", x.came(0), 0);
        due("lacks(0)", x.lacks(0), NONE);
        due("tick(0)", x.tick(0), 0);
    }

    private static void newObjectIsNotOffLine() {
        promise(1, "A new object");
        FetchRules x = new FetchRules(0);
        due("begin", x.begin(wantFrom(x, 5, x.place(0, 1))), FETCHES);
        due("lacks(0)", x.lacks(0), NONE);
    }

    private static void newObjectHasItsClockAt0() {
        promise(1, "A new object");
        FetchRules x = new FetchRules(1);
        int place = placeWith(x, 0, 1, 1);
        x.cut(place, 1, 0);
        int want = begunFrom(x, digestOf(1), place);
        x.tick(1);
        due("till the CLOCK 1 and 1", x.about(want, 3), 2);
    }

    private static void objectsShareNothing() {
        promise(1, "No PLACES, no WANTS, nothing KEPT");
        FetchRules first = furnished();
        FetchRules second = new FetchRules(0);
        due("digest(0)", second.digest(0), 0);
        due("begin(0)", second.begin(0), NONE);
        due("what another one keeps", second.begin(second.want(first.digest(5))), FAILED);
        due("barred(0, 0)", second.barred(0, 0), NONE);
        due("lacks(0)", second.lacks(0), NONE);
        due("sent(0)", second.sent(0), 0);
        due("file(0, 0)", second.file(0, 0), NONE);
    }

    /** How many times a WANT comes to WAIT at a PLACE that gives nothing. */
    private static int waitsWith(int retries) {
        FetchRules x = new FetchRules(retries);
        int place = placeWith(x, 0, 50, 1);
        x.cut(place, 9, 0);
        int want = begunFrom(x, digestOf(1), place);
        int waits = 0;
        for (int i = 0; i < 9; i++) {
            if (x.about(want, 0) == WAITS || i == 0) {
                x.tick(i == 0 ? 1 : 1 << i - 1);
                waits += x.about(want, 0) == WAITS ? 1 : 0;
            }
        }
        due("FAILED at last, with retries " + retries, x.about(want, 0), FAILED);
        return waits;
    }

    private static void retriesBelowTheRangeAreNone() {
        promise(1, "RETRIES (beyond the range: the nearest that isn't)");
        due("retries -1", waitsWith(-1), 0);
        due("retries LOW", waitsWith(LOW), 0);
    }

    private static void retriesAboveTheRangeAreFive() {
        promise(1, "RETRIES (beyond the range: the nearest that isn't)");
        due("retries 6", waitsWith(6), 5);
        due("retries HIGH", waitsWith(HIGH), 5);
    }

    private static void retriesWithinTheRangeAreAsTold() {
        terms("as often as RETRIES (0 .. 5) say");
        for (int retries = 0; retries <= 5; retries++) {
            due("retries " + retries, waitsWith(retries), retries);
        }
    }

    // ---- Promise 2

    /** How many CREDENTIALS one TURN sends to a HOST. */
    private static int sentByATurn(FetchRules x, int host) {
        int before = x.sent(host);
        begunFrom(x, 99, placeWith(x, host, 50, 1));
        x.tick(1);
        return x.sent(host) - before;
    }

    private static void firstAndLastHostMayHaveACredential() {
        terms("HOSTS 0 .. 7 may have a CREDENTIAL");
        FetchRules x = new FetchRules(0);
        due("credential(0, true)", x.credential(0, true), true);
        due("credential(7, true)", x.credential(7, true), true);
        due("sent to 0", sentByATurn(x, 0), 1);
        due("sent to 7", sentByATurn(x, 7), 1);
        due("credential(0, false)", x.credential(0, false), true);
        due("credential(7, false)", x.credential(7, false), true);
        due("sent to 0", sentByATurn(x, 0), 0);
        due("sent to 7", sentByATurn(x, 7), 0);
    }

    private static void hostsBesideTheRangeAreRefused() {
        promise(2, "false if there is none such");
        for (int host : joined(FAR_OUT, -1, 8)) {
            refused("credential(" + host + ", true)", Twins::furnished, x -> x.credential(host, true));
            refused("credential(" + host + ", false)", Twins::furnished, x -> x.credential(host, false));
        }
    }

    private static void credentialOnIsOn() {
        promise(2, "A HOST has a CREDENTIAL, or none");
        for (int host = 0; host < 8; host++) {
            FetchRules x = new FetchRules(0);
            due("credential(" + host + ", true)", x.credential(host, true), true);
            due("sent by a TURN", sentByATurn(x, host), 1);
        }
    }

    private static void credentialOffIsOff() {
        promise(2, "A HOST has a CREDENTIAL, or none");
        FetchRules x = new FetchRules(0);
        due("off where there is none", x.credential(4, false), true);
        due("sent by a TURN", sentByATurn(x, 4), 0);
        x.credential(4, true);
        due("off", x.credential(4, false), true);
        due("sent by a TURN", sentByATurn(x, 4), 0);
    }

    private static void credentialOnTwiceIsOnOnce() {
        promise(2, "A HOST has a CREDENTIAL, or none");
        FetchRules x = new FetchRules(0);
        x.credential(4, true);
        due("on again", x.credential(4, true), true);
        due("sent by a TURN", sentByATurn(x, 4), 1);
        x.credential(4, false);
        due("off once is off", sentByATurn(x, 4), 0);
    }

    private static void credentialIsOfItsHostAlone() {
        promise(2, "A HOST has a CREDENTIAL, or none");
        FetchRules x = new FetchRules(0);
        x.credential(3, true);
        due("sent to 2", sentByATurn(x, 2), 0);
        due("sent to 4", sentByATurn(x, 4), 0);
        due("sent to 3", sentByATurn(x, 3), 1);
    }

    // ---- Promise 3

    private static FetchRules withPlaces(int n) {
        FetchRules x = new FetchRules(0);
        for (int i = 0; i < n; i++) {
            placeWith(x, i % 8, 1 + i, i);
        }
        return x;
    }

    private static void sixteenPlacesAreNumberedFrom0() {
        terms("PLACES, at most 16, numbered from 0");
        FetchRules x = new FetchRules(0);
        for (int i = 0; i < 16; i++) {
            due("place " + i, x.place(0, 1), i);
        }
        due("the last has CONTENT", x.content(15, 1, 1), true);
    }

    private static void seventeenthPlaceIsRefused() {
        promise(3, "NONE if there are 16");
        refused("the 17th place", NONE, () -> withPlaces(16), x -> x.place(3, 3));
        FetchRules x = withPlaces(16);
        for (int i = 0; i < 20; i++) {
            due("one more place", x.place(0, 1), NONE);
        }
        due("none such", x.content(16, 1, 1), false);
    }

    private static void hostOfAPlaceJustInside() {
        promise(3, "NONE if there are 16, or HOST or RATE aren't as told");
        FetchRules x = new FetchRules(0);
        due("place(0, 1)", x.place(0, 1), 0);
        due("place(7, 1)", x.place(7, 1), 1);
    }

    private static void hostOfAPlaceJustOutside() {
        promise(3, "or HOST or RATE aren't as told");
        for (int host : joined(FAR_OUT, -1, 8)) {
            refused("place(" + host + ", 1)", NONE, Twins::furnished, x -> x.place(host, 1));
        }
    }

    private static void rateJustInside() {
        terms("a RATE (1 .. 50: bytes a turn)");
        FetchRules x = new FetchRules(0);
        int slow = placeWith(x, 0, 1, upTo(3));
        int fast = placeWith(x, 0, 50, upTo(51));
        due("place(0, 1)", slow, 0);
        due("place(0, 50)", fast, 1);
        int one = begunFrom(x, 99, slow);
        int fifty = begunFrom(x, 99, fast);
        x.tick(1);
        due("1 byte a turn", x.about(one, 2), 1);
        due("50 bytes a turn", x.about(fifty, 2), 50);
    }

    private static void rateJustOutside() {
        promise(3, "or HOST or RATE aren't as told");
        for (int rate : joined(FAR_OUT, -1, 0, 51)) {
            refused("place(0, " + rate + ")", NONE, Twins::furnished, x -> x.place(0, rate));
        }
    }

    private static void refusedPlaceTakesNoNumber() {
        promise(3, "its number; NONE if");
        FetchRules x = withPlaces(15);
        due("place(8, 1)", x.place(8, 1), NONE);
        due("place(0, 0)", x.place(0, 0), NONE);
        due("the 16th", x.place(0, 1), 15);
    }

    private static void newPlaceIsEmpty() {
        promise(3, "its CONTENT empty");
        FetchRules x = new FetchRules(0);
        int place = x.place(0, 1);
        due("digest", x.digest(place), 0);
        int want = begunFrom(x, 0, place);
        due("DONE with the empty row in one TURN", x.tick(1), 0);
        due("DONE", x.about(want, 0), DONE);
        due("no bytes", x.about(want, 2), 0);
    }

    private static void newPlaceDoesNothingElse() {
        promise(3, "that does nothing else");
        FetchRules x = withPlaces(16);
        int[] places = {0, 1, 15};
        for (int place : places) {
            int want = begunFrom(x, digestOf(place), place);
            x.tick(1);
            due("a WANT from PLACE " + place, x.about(want, 0), DONE);
            due("its byte", x.byteOf(want, 0), place);
        }
    }

    // ---- Promise 4

    private static int digestWith(long w, int n) {
        FetchRules x = new FetchRules(0);
        due("content(0, " + w + ", " + n + ")", x.content(x.place(0, 1), w, n), true);
        return x.digest(0);
    }

    private static void oneByteIsTheLowest() {
        promise(4, "The lowest n bytes (1 .. 8) of a number");
        due("of 0", digestWith(0, 1), digestOf(0));
        due("of 255", digestWith(255, 1), digestOf(255));
        due("of 256", digestWith(256, 1), digestOf(0));
        due("of -1", digestWith(-1, 1), digestOf(255));
        due("of -128", digestWith(-128, 1), digestOf(128));
        due("of the highest number", digestWith(Long.MAX_VALUE, 1), digestOf(255));
        due("of the lowest number", digestWith(Long.MIN_VALUE, 1), digestOf(0));
    }

    private static void eightBytesAreTheWholeNumber() {
        promise(4, "the highest of these first");
        due("of -1", digestWith(-1, 8), digestOf(times(8, 255)));
        due("of the highest number", digestWith(Long.MAX_VALUE, 8), digestOf(127, 255, 255, 255, 255, 255, 255, 255));
        due("of the lowest number", digestWith(Long.MIN_VALUE, 8), digestOf(128, 0, 0, 0, 0, 0, 0, 0));
        due("of 1", digestWith(1, 8), digestOf(0, 0, 0, 0, 0, 0, 0, 1));
    }

    private static void eachCountOfBytesTakesTheLowest() {
        promise(4, "The lowest n bytes (1 .. 8) of a number, the highest of these first");
        int[] all = {0xF1, 0xE2, 0xD3, 0xC4, 0xB5, 0xA6, 0x97, 0x88};
        for (int n = 1; n <= 8; n++) {
            int[] lowest = java.util.Arrays.copyOfRange(all, 8 - n, 8);
            due("n " + n, digestWith(0xF1E2D3C4B5A69788L, n), digestOf(lowest));
        }
    }

    private static void bytesComeAtTheEnd() {
        promise(4, "come at the end of a PLACE's CONTENT");
        FetchRules x = new FetchRules(0);
        int place = x.place(0, 50);
        x.content(place, 0x0102, 2);
        x.content(place, 0x03, 1);
        x.content(place, 0x04050607L, 4);
        int want = begunFrom(x, digestOf(upTo(7)), place);
        x.tick(1);
        for (int i = 0; i < 7; i++) {
            due("byteOf " + i, x.byteOf(want, i), i + 1);
        }
    }

    private static void noContentForPlacesThatAreNot() {
        promise(4, "false, and none come, if there is none such");
        for (int place : joined(FAR_OUT, -1, 6, 16)) {
            refused("content(" + place + ", 1, 1)", Twins::furnished, x -> x.content(place, 1, 1));
        }
    }

    private static void noContentWithACountThatIsNotSo() {
        promise(4, "false, and none come, if there is none such, n isn't so");
        for (int n : joined(FAR_OUT, -1, 0, 9)) {
            refused("content(0, -1, " + n + ")", Twins::furnished, x -> x.content(0, -1, n));
        }
    }

    /** PLACE 0 has n bytes, by as few calls as may be. */
    private static FetchRules withContent(int n) {
        FetchRules x = new FetchRules(0);
        x.place(0, 50);
        for (int i = 0; i < n / 8; i++) {
            x.content(0, 0x0101010101010101L, 8);
        }
        for (int i = 0; i < n % 8; i++) {
            x.content(0, 1, 1);
        }
        wantFrom(x, digestOf(times(n, 1)), 0);
        return x;
    }

    private static void contentUpTo100Bytes() {
        terms("CONTENT (a row of at most 100 bytes, 0 .. 255)");
        FetchRules x = new FetchRules(0);
        int place = x.place(0, 50);
        for (int i = 0; i < 100; i++) {
            due("byte " + i, x.content(place, 255, 1), true);
        }
        due("byte 100", x.content(place, 255, 1), false);
        due("100 of 255", x.digest(place), digestOf(times(100, 255)));
        int want = begunFrom(x, x.digest(place), place);
        x.tick(2);
        due("all 100 come", x.about(want, 2), 100);
        due("the last of them", x.byteOf(want, 99), 255);
    }

    private static void contentThatFillsExactly() {
        promise(4, "or there is no room");
        for (int n = 1; n <= 8; n++) {
            FetchRules x = withContent(100 - n);
            due(n + " bytes with room for " + n, x.content(0, 0x0101010101010101L, n), true);
            due("100 bytes", x.digest(0), digestOf(times(100, 1)));
        }
    }

    private static void contentWithoutRoomComesNotEvenInPart() {
        promise(4, "false, and none come, if there is none such, n isn't so, or there is no room");
        for (int n = 1; n <= 8; n++) {
            int count = n;
            refused(n + " bytes with room for " + (n - 1), () -> withContent(101 - count), x -> x.content(0, -1, count));
            refused(n + " bytes with no room", () -> withContent(100), x -> x.content(0, -1, count));
        }
        FetchRules x = withContent(96);
        x.content(0, -1, 5);
        due("what fits comes behind a refused one", x.content(0, 0x01010101L, 4), true);
        due("100 bytes", x.digest(0), digestOf(times(100, 1)));
    }

    private static void contentOfAnotherPlaceHasItsOwnRoom() {
        promise(4, "or there is no room");
        FetchRules x = withContent(100);
        int other = x.place(0, 1);
        due("content of another", x.content(other, 9, 1), true);
        due("its digest", x.digest(other), digestOf(9));
        due("the full one's", x.digest(0), digestOf(times(100, 1)));
    }

    // ---- Promise 5

    private static final int[] NOT_0 = {1, -1, 2, 256, LOW, HIGH};

    /** What a WANT of [4] from PLACE 0 comes to, when that does something. */
    private static int comesTo(int kind, int... whiches) {
        FetchRules x = new FetchRules(0);
        placeWith(x, 0, 50, 4);
        for (int which : whiches) {
            due("does(0, " + kind + ", " + which + ")", x.does(0, kind, which), true);
        }
        begunFrom(x, digestOf(4), 0);
        x.tick(1);
        return x.about(0, 0);
    }

    private static void goneByAnyNumberBut0() {
        promise(5, "GONE (kind 0: on if which isn't 0)");
        for (int which : NOT_0) {
            due("GONE by " + which, comesTo(0, which), FAILED);
            due("GONE no more", comesTo(0, which, 0), DONE);
        }
        due("not GONE by 0", comesTo(0, 0), DONE);
        due("GONE twice", comesTo(0, 1, 2), FAILED);
    }

    private static void wantsByAnyNumberBut0() {
        promise(5, "WANTS (2: on if which isn't 0)");
        for (int which : NOT_0) {
            due("WANTS by " + which, comesTo(2, which), FAILED);
            due("WANTS no more", comesTo(2, which, 0), DONE);
        }
        due("WANTS none by 0", comesTo(2, 0), DONE);
        due("WANTS twice", comesTo(2, 1, 2), FAILED);
    }

    private static void liesByAnyNumberBut0() {
        promise(5, "LIES (3: likewise)");
        for (int which : NOT_0) {
            due("LIES by " + which, comesTo(3, which), FAILED);
            due("LIES no more", comesTo(3, which, 0), DONE);
        }
        due("doesn't LIE by 0", comesTo(3, 0), DONE);
        due("LIES twice is no truth", comesTo(3, 1, 2), FAILED);
    }

    private static void leadsToTheFirstAndTheLastPlace() {
        promise(5, "LEADS (1: to which; NONE: to none)");
        FetchRules x = withPlaces(16);
        due("to the first", x.does(5, 1, 0), true);
        due("to the last", x.does(6, 1, 15), true);
        int first = begunFrom(x, digestOf(0), 5);
        int last = begunFrom(x, digestOf(15), 6);
        x.tick(1);
        due("byte of the first", x.byteOf(first, 0), 0);
        due("byte of the last", x.byteOf(last, 0), 15);
        due("both are DONE", x.tick(0), 0);
    }

    private static void leadsToNone() {
        promise(5, "NONE: to none");
        FetchRules x = withPlaces(2);
        due("to none where it LEADS to none", x.does(0, 1, NONE), true);
        x.does(0, 1, 1);
        due("to none", x.does(0, 1, NONE), true);
        int want = begunFrom(x, digestOf(0), 0);
        x.tick(1);
        due("its own byte", x.byteOf(want, 0), 0);
        due("DONE", x.about(want, 0), DONE);
    }

    private static void leadsToItself() {
        promise(5, "(To itself it can.)");
        FetchRules x = withPlaces(1);
        due("to itself", x.does(0, 1, 0), true);
        int want = begunFrom(x, digestOf(0), 0);
        due("TOO FAR: it doesn't go round for ever", x.tick(1), 0);
        due("FAILED", x.about(want, 0), FAILED);
    }

    private static void leadsNowhereElse() {
        promise(5, "False if there is none such, or it can't LEAD there");
        for (int which : joined(FAR_OUT, -2, 6, 16)) {
            refused("does(0, 1, " + which + ")", Twins::furnished, x -> x.does(0, 1, which));
        }
    }

    private static void refusedLeadLeavesTheOneBefore() {
        promise(5, "or it can't LEAD there");
        for (int which : joined(FAR_OUT, -2, 6, 16)) {
            refused("does(2, 1, " + which + ")", Twins::furnished, x -> x.does(2, 1, which));
        }
    }

    private static void noOtherKinds() {
        promise(5, "False if there is none such");
        for (int kind : joined(FAR_OUT, -1, 4)) {
            for (int which = -1; which <= 1; which++) {
                int to = which;
                refused("does(0, " + kind + ", " + to + ")", Twins::furnished, x -> x.does(0, kind, to));
            }
        }
    }

    private static void nothingDoneByPlacesThatAreNot() {
        promise(5, "False if there is none such");
        for (int place : joined(FAR_OUT, -1, 6, 16)) {
            for (int kind = 0; kind <= 3; kind++) {
                int what = kind;
                refused("does(" + place + ", " + kind + ", 1)", Twins::furnished, x -> x.does(place, what, 1));
            }
        }
    }

    private static void whatAPlaceDoesIsToldApart() {
        terms("A PLACE may be GONE, may LEAD to another PLACE, may WANT a CREDENTIAL, may be CUT");
        int[] kinds = {0, 1, 2, 3};
        for (int kind : kinds) {
            FetchRules x = withPlaces(2);
            for (int other : kinds) {
                x.does(0, other, 1);
            }
            for (int other : kinds) {
                if (other != kind) {
                    x.does(0, other, other == 1 ? NONE : 0);
                }
            }
            int truth = begunFrom(x, digestOf(kind == 1 ? 1 : 0), 0);
            x.tick(1);
            due("kind " + kind + " alone is left", x.about(truth, 0), kind == 1 ? DONE : FAILED);
            x.does(0, kind, kind == 1 ? NONE : 0);
            int fresh = placeWith(x, 0, 50, 8);
            x.does(fresh, 1, 0);
            int plain = begunFrom(x, digestOf(0), fresh);
            x.tick(1);
            due("none is left", x.about(plain, 0), DONE);
        }
    }

    // ---- Promise 6

    /** PLACE 0 with ten bytes is CUT; WANT 0 of these has begun. */
    private static FetchRules withCut(int times, int bytes) {
        FetchRules x = new FetchRules(5);
        int place = placeWith(x, 0, 5, upTo(10));
        due("cut(0, " + times + ", " + bytes + ")", x.cut(place, times, bytes), true);
        begunFrom(x, digestOf(upTo(10)), place);
        return x;
    }

    private static void cutTimesJustInside() {
        terms("CUT (its first so many answers, 0 .. 9, give at most so many bytes each)");
        FetchRules none = withCut(0, 0);
        none.tick(1);
        due("0 times: not CUT", none.about(0, 2), 5);
        due("0 times: no FALTERING", none.about(0, 0), FETCHES);

        promise(6, "its next so many answers (0 .. 9)");
        FetchRules nine = withCut(9, 0);
        // Six answers by CLOCK 32, when it is GIVEN UP; three more behind a new BEGINNING.
        nine.tick(32);
        due("FAILED by six answers", nine.about(0, 0), FAILED);
        due("six TURNS", nine.about(0, 4), 6);
        nine.begin(0);
        nine.tick(4);
        due("the ninth is CUT", nine.about(0, 0), WAITS);
        due("nine TURNS", nine.about(0, 4), 9);
        due("no bytes", nine.about(0, 2), 0);
        nine.tick(4);
        due("the tenth isn't", nine.about(0, 2), 5);
        due("ten TURNS", nine.about(0, 4), 10);
    }

    private static void cutTimesJustOutside() {
        promise(6, "false if there is none such, or it isn't so");
        for (int times : joined(FAR_OUT, -1, 10)) {
            refused("cut(0, " + times + ", 0)", Twins::furnished, x -> x.cut(0, times, 0));
        }
    }

    private static void cutBytesJustInside() {
        promise(6, "at most so many bytes (0 .. 100) each");
        FetchRules none = withCut(1, 0);
        none.tick(1);
        due("0 bytes", none.about(0, 2), 0);
        due("WAITS", none.about(0, 0), WAITS);
        FetchRules one = withCut(1, 1);
        one.tick(1);
        due("1 byte", one.about(0, 2), 1);
        FetchRules most = withCut(1, 100);
        most.tick(1);
        due("100 bytes: no more than RATE", most.about(0, 2), 5);
        due("but it FALTERS, as it hasn't all", most.about(0, 0), WAITS);
    }

    private static void cutBytesJustOutside() {
        promise(6, "false if there is none such, or it isn't so");
        for (int bytes : joined(FAR_OUT, -1, 101)) {
            refused("cut(0, 1, " + bytes + ")", Twins::furnished, x -> x.cut(0, 1, bytes));
            refused("cut(0, 0, " + bytes + ")", Twins::furnished, x -> x.cut(0, 0, bytes));
        }
    }

    private static void noCutOfPlacesThatAreNot() {
        promise(6, "false if there is none such");
        for (int place : joined(FAR_OUT, -1, 6, 16)) {
            refused("cut(" + place + ", 1, 1)", Twins::furnished, x -> x.cut(place, 1, 1));
        }
    }

    private static void refusedCutLeavesTheOneBefore() {
        promise(6, "or it isn't so");
        refused("cut(1, 10, 2)", Twins::furnished, x -> x.cut(1, 10, 2));
        refused("cut(1, 0, 101)", Twins::furnished, x -> x.cut(1, 0, 101));
        refused("cut(1, -1, 2)", Twins::furnished, x -> x.cut(1, -1, 2));
        refused("cut(1, 9, -1)", Twins::furnished, x -> x.cut(1, 9, -1));
    }

    private static void laterCutTakesThePlaceOfTheEarlier() {
        promise(6, "its next so many answers");
        FetchRules x = withCut(9, 0);
        x.cut(0, 1, 2);
        x.tick(1);
        due("CUT to 2", x.about(0, 2), 2);
        x.tick(1);
        due("CUT once", x.about(0, 2), 7);
        x.cut(0, 9, 0);
        x.cut(0, 0, 0);
        x.tick(1);
        due("CUT 0 times ends it", x.about(0, 0), DONE);
    }

    // ---- Promise 7

    private static int digestOfPlace(int... bytes) {
        FetchRules x = new FetchRules(0);
        return x.digest(placeWith(x, 0, 1, bytes));
    }

    private static void digestOfAnEmptyRow() {
        terms("s is 0 at first");
        due("of none", digestOfPlace(), 0);
        due("of 0", digestOfPlace(0), 0);
        due("of 100 zeros", digestOfPlace(times(100, 0)), 0);
    }

    private static void digestOfOneByte() {
        terms("s = ROTL(s xor b, 5) * 0x85EBCA77, in 32 bits");
        due("of 1", digestOfPlace(1), -1116123424);
        due("of 128", digestOfPlace(128), -1129877504);
        due("of 255", digestOfPlace(255), -1143631584);
    }

    private static void digestWrapsAround() {
        terms("in 32 bits (ROTL(v, 5): v turned left by 5)");
        due("what goes out at the left comes in at the right", digestOfPlace(1, 0), 1883010225);
        due("of 1, 2", digestOfPlace(1, 2), -349236623);
        due("of 2, 1", digestOfPlace(2, 1), 1717875673);
    }

    private static void digestOfAFullRow() {
        terms("for each byte b in turn");
        due("of 1 .. 100", digestOfPlace(upTo(100)), 1917395601);
        due("of 100 times 255", digestOfPlace(times(100, 255)), 810778637);
        due("the last byte counts", digestOfPlace(joined(times(99, 0), 1)), -1116123424);
        due("the first byte counts", digestOfPlace(joined(new int[] {1}, times(99, 0))), -1833088530);
    }

    private static void digestTakesTheBytesInTurn() {
        promise(7, "DIGEST of a PLACE's CONTENT");
        FetchRules x = new FetchRules(0);
        int place = x.place(0, 1);
        for (int n = 1; n <= 5; n++) {
            x.content(place, n, 1);
            due("of " + n + " bytes", x.digest(place), digestOf(upTo(n)));
        }
    }

    private static void digestIsWithoutLying() {
        promise(7, "(as it is without LYING)");
        FetchRules x = new FetchRules(0);
        int place = placeWith(x, 0, 1, 1, 2);
        x.does(place, 3, 1);
        due("of a liar", x.digest(place), -349236623);
        x.does(place, 0, 1);
        x.does(place, 1, x.place(0, 1));
        x.does(place, 2, 1);
        x.cut(place, 9, 0);
        due("whatever else it does", x.digest(place), -349236623);
    }

    private static void noDigestOfPlacesThatAreNot() {
        promise(7, "0 if there is none such");
        for (int place : joined(FAR_OUT, -1, 6, 16)) {
            refused("digest(" + place + ")", 0, Twins::furnished, x -> x.digest(place));
        }
    }

    // ---- Promise 8

    private static FetchRules withWants(int n) {
        FetchRules x = new FetchRules(0);
        for (int i = 0; i < n; i++) {
            x.want(i);
        }
        return x;
    }

    private static void tenWantsAreNumberedFrom0() {
        terms("WANTS, at most 10, numbered from 0");
        FetchRules x = new FetchRules(0);
        for (int i = 0; i < 10; i++) {
            due("want " + i, x.want(7), i);
        }
        due("the last is there", x.about(9, 0), IDLE);
    }

    private static void eleventhWantIsRefused() {
        promise(8, "NONE if there are 10");
        refused("the 11th want", NONE, () -> withWants(10), x -> x.want(3));
        FetchRules x = withWants(10);
        for (int i = 0; i < 20; i++) {
            due("one more want", x.want(0), NONE);
        }
        due("none such", x.about(10, 0), NONE);
    }

    private static void newWantIsIdle() {
        promise(8, "A new WANT, IDLE");
        FetchRules x = furnished();
        int want = x.want(x.digest(5));
        due("IDLE, even if its row is KEPT", x.about(want, 0), IDLE);
        due("no PLACE", x.about(want, 1), NONE);
        due("no bytes", x.about(want, 2), 0);
        due("no wait", x.about(want, 3), NONE);
        due("no TURNS", x.about(want, 4), 0);
        x.tick(50);
        due("it stays IDLE", x.about(want, 0), IDLE);
        due("and has no TURNS", x.about(want, 4), 0);
    }

    private static void digestOfAWantMayBeAnyNumber() {
        promise(8, "A new WANT, IDLE: its number");
        int[] digests = {0, 1, -1, LOW, HIGH};
        FetchRules x = new FetchRules(0);
        for (int i = 0; i < digests.length; i++) {
            due("want(" + digests[i] + ")", x.want(digests[i]), i);
        }
        int place = placeWith(x, 0, 50, 255);
        int negative = begunFrom(x, -1143631584, place);
        x.tick(1);
        due("a DIGEST below 0", x.about(negative, 0), DONE);
        int empty = begunFrom(x, 0, x.place(0, 1));
        x.tick(1);
        due("a DIGEST of 0", x.about(empty, 0), DONE);
    }

    // ---- Promise 9

    /** 8 PLACES, all GONE, and WANT 0 with the first n of them. */
    private static FetchRules withPlacesOfWant(int n) {
        FetchRules x = withPlaces(8);
        x.want(99);
        for (int i = 0; i < 8; i++) {
            x.does(i, 0, 1);
        }
        for (int i = 0; i < n; i++) {
            due("from(0, " + i + ")", x.from(0, i), true);
        }
        return x;
    }

    private static void sixPlacesOfAWantInOrder() {
        terms("have a DIGEST and PLACES in order, at most 6");
        FetchRules x = withPlaces(8);
        x.want(99);
        int[] order = {7, 2, 5, 0, 6, 1};
        for (int place : order) {
            x.does(place, 0, 1);
            due("from(0, " + place + ")", x.from(0, place), true);
        }
        x.begin(0);
        for (int place : order) {
            due("its PLACE", x.about(0, 1), place);
            x.tick(1);
        }
        due("FAILED behind the sixth", x.about(0, 0), FAILED);
        due("six TURNS", x.about(0, 4), 6);
    }

    private static void seventhPlaceOfAWantIsRefused() {
        promise(9, "there are 6");
        refused("the seventh", () -> withPlacesOfWant(6), x -> x.from(0, 6));
        FetchRules x = withPlacesOfWant(6);
        x.from(0, 7);
        x.begin(0);
        due("it isn't tried", x.tick(6), 0);
    }

    private static void placeThatIsThereIsRefused() {
        promise(9, "it is there");
        for (int n = 1; n <= 6; n++) {
            int count = n;
            refused("the first again", () -> withPlacesOfWant(count), x -> x.from(0, 0));
            refused("the last again", () -> withPlacesOfWant(count), x -> x.from(0, count - 1));
        }
        FetchRules x = withPlacesOfWant(1);
        x.from(0, 0);
        x.begin(0);
        due("it is tried once", x.tick(1), 0);
        due("it may be another WANT's too", x.from(x.want(1), 0), true);
    }

    private static void noPlacesForWantsThatAreNot() {
        promise(9, "false if there are none such");
        for (int want : joined(FAR_OUT, -1, 6, 10)) {
            refused("from(" + want + ", 0)", Twins::furnished, x -> x.from(want, 0));
        }
    }

    private static void noPlacesThatAreNot() {
        promise(9, "false if there are none such");
        for (int place : joined(FAR_OUT, -1, 6, 16)) {
            refused("from(4, " + place + ")", Twins::furnished, x -> x.from(4, place));
        }
    }

    private static void noPlacesForWantsThatAreNotIdle() {
        promise(9, "or it isn't IDLE");
        String[] states = {"DONE", "FAILED", "WAITS", "FETCHES", "IDLE", "FAILED and LACKS"};
        int[] numbers = {DONE, FAILED, WAITS, FETCHES, IDLE, FAILED};
        for (int i = 0; i < states.length; i++) {
            int want = i;
            due(states[i], furnished().about(want, 0), numbers[i]);
            if (numbers[i] != IDLE) {
                refused("a PLACE for one that is " + states[i], Twins::furnished, x -> x.from(want, 3));
            }
        }
        due("a PLACE for one that is IDLE", furnished().from(4, 3), true);
    }

    private static void lastPlaceOfSixteenForTheLastWantOfTen() {
        promise(9, "A PLACE comes at the end of a WANT's");
        FetchRules x = withPlaces(16);
        for (int i = 0; i < 10; i++) {
            x.want(digestOf(15));
        }
        due("from(9, 16)", x.from(9, 16), false);
        due("from(10, 15)", x.from(10, 15), false);
        due("from(9, 15)", x.from(9, 15), true);
        x.begin(9);
        x.tick(1);
        due("DONE", x.about(9, 0), DONE);
        due("no other has begun", x.about(8, 0), IDLE);
    }
}
