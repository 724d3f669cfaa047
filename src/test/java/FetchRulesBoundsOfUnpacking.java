/** Promises 19 and 20 and the ARCHIVE of the terms: a test of its own for each boundary case that a sentence names. */
public final class FetchRulesBoundsOfUnpacking extends Twins {
    private static final int[] FAR_OUT = {LOW, LOW + 1, -1000, 1000, HIGH - 1, HIGH};

    public static void main(String[] args) {
        unpackRefusesWantsThatAreNot();
        unpackRefusesWantsThatAreNotDone();
        unpackRefusesStrippingJustOutside();
        unpackTakesStrippingJustInside();
        unpackOfAnEmptyRow();
        unpackOfAFullRow();
        unpackOfAsManyFilesAsCanBe();
        unpackTellsIllAtTheFirstByte();
        unpackTellsIllAtTheLastByte();
        unpackTellsIllBehindTheLastByte();
        unpackIsNotMovedByItsPlace();
        unpackOfWhatIsKept();

        entriesGoToTheRowsEnd();
        pathLengthJustInside();
        pathLengthJustOutside();
        pathLengthBeforeWhatLacks();
        noPathAtAll();
        halfAPath();
        noSizeBehindThePath();
        bytesUpToMBeforeThePath();
        charactersJustInside();
        charactersJustOutside();
        emptySegments();
        segmentsOfDots();
        segmentsThatOnlyBeginOrEndWithDots();
        pathBeforeBytesThatLack();
        noBytesAreWantedByM0();
        bytesJustThere();
        bytesJustLacking();
        mostBytesWanted();
        entryByEntry();
        entriesLeftOutAreLookedAtToo();

        strippedByNone();
        strippedByAsManyAsThereAre();
        strippedByOneLess();
        strippedPathsThatBecomeOne();
        lastOfOnePathCounts();
        pathsThatDifferAreTwo();

        fileJustInsideAndOutside();
        fileAnotherWhat();
        fileBeforeAnyUnpack();
        fileBehindARefusedUnpack();
        fileBehindAnIllUnpack();
        fileBehindAnUnpackOfNone();
        fileBehindASmallerUnpack();
        fileOrderIsThatOfFirstComing();
        filePathIsWhereItCameFirst();
        filesAsManyAsCanBe();
        fileAtTheRowsEnd();
        end();
    }

    private static int unpacked(int k, int... row) {
        FetchRules x = doneWith(row);
        due("DONE", x.about(0, 0), DONE);
        return x.unpack(0, k);
    }

    /** ILL by the place, whatever is STRIPPED. */
    private static void dueIll(String what, int place, int... row) {
        for (int k = 0; k <= 5; k++) {
            due(what + ", k " + k, unpacked(k, row), -1 - place);
        }
    }

    private static int[] entry(String path) {
        return archive(path, 0);
    }

    // ---- Promise 19

    private static void unpackRefusesWantsThatAreNot() {
        promise(19, "- 1000 if there is none such");
        for (int want : joined(FAR_OUT, -1, 6, 10)) {
            refused("unpack(" + want + ", 1)", -1000, Twins::furnished, x -> x.unpack(want, 1));
        }
    }

    private static void unpackRefusesWantsThatAreNotDone() {
        promise(19, "it isn't DONE");
        int[] states = {DONE, FAILED, WAITS, FETCHES, IDLE, FAILED};
        for (int i = 1; i < states.length; i++) {
            int want = i;
            due("what it is", furnished().about(want, 0), states[i]);
            refused("unpack(" + want + ", 0)", -1000, Twins::furnished, x -> x.unpack(want, 0));
        }
        due("DONE", furnished().unpack(0, 0), 2);
    }

    private static void unpackRefusesStrippingJustOutside() {
        promise(19, "or k isn't so");
        for (int k : joined(FAR_OUT, -1, 6)) {
            refused("unpack(0, " + k + ")", -1000, Twins::furnished, x -> x.unpack(0, k));
        }
    }

    private static void unpackTakesStrippingJustInside() {
        promise(19, "STRIPPED by k (0 .. 5)");
        int[] row = entry("a/b/c/d/e/f");
        due("k 0", unpacked(0, row), 1);
        due("k 5", unpacked(5, row), 1);
    }

    private static void unpackOfAnEmptyRow() {
        promise(19, "how many FILES there are (PATHS)");
        for (int k = 0; k <= 5; k++) {
            due("no ENTRIES, k " + k, unpacked(k), 0);
        }
    }

    private static void unpackOfAFullRow() {
        promise(19, "how many FILES there are (PATHS)");
        int[] row = archive("a", 97);
        due("its bytes", row.length, 100);
        due("one ENTRY of 100 bytes", unpacked(0, row), 1);
    }

    private static void unpackOfAsManyFilesAsCanBe() {
        promise(19, "how many FILES there are (PATHS)");
        due("33 of 3 bytes", unpacked(0, shortest(33)), 33);
        due("33 of one PATH", unpacked(0, repeated(33, entry("a"))), 1);
        due("25 of 4 bytes", unpacked(0, repeated(25, archive("a", 1))), 1);
    }

    private static int[] repeated(int n, int[] row) {
        int[] all = {};
        for (int i = 0; i < n; i++) {
            all = joined(all, row);
        }
        return all;
    }

    private static void unpackTellsIllAtTheFirstByte() {
        promise(19, "- 1 less the place at which it is ILL");
        dueIll("n 0 at place 0", 0, 0);
        due("which is -1", unpacked(0, 0), -1);
    }

    private static void unpackTellsIllAtTheLastByte() {
        promise(19, "- 1 less the place at which it is ILL");
        int[] row = joined(archive("a", 96), 0);
        due("its bytes", row.length, 100);
        dueIll("n 0 at place 99", 99, row);
    }

    private static void unpackTellsIllBehindTheLastByte() {
        promise(19, "- 1 less the place at which it is ILL");
        int[] row = joined(archive("a", 96), 1);
        due("its bytes", row.length, 100);
        dueIll("no PATH behind place 99", 100, row);
    }

    private static void unpackIsNotMovedByItsPlace() {
        promise(19, "The bytes of a WANT that is DONE as an ARCHIVE");
        FetchRules x = doneWith(archive("a", 0));
        x.content(0, 0, 1);
        x.does(0, 3, 1);
        due("its PLACE has other bytes by now", x.unpack(0, 0), 1);
        due("and it has its own", x.about(0, 2), 3);
    }

    private static void unpackOfWhatIsKept() {
        promise(19, "The bytes of a WANT that is DONE as an ARCHIVE");
        FetchRules x = doneWith(archive("a", 0, "b", 1));
        int kept = x.want(digestOf(archive("a", 0, "b", 1)));
        due("not before it begins", x.unpack(kept, 0), -1000);
        x.begin(kept);
        due("DONE by what is KEPT", x.unpack(kept, 0), 2);
    }

    // ---- ILL

    private static void entriesGoToTheRowsEnd() {
        terms("a row of ENTRIES to its end");
        int[] row = {};
        for (int i = 0; i < 14; i++) {
            row = joined(row, archive("a." + i / 10 + i % 10, i % 2));
            due(i + 1 + " ENTRIES", unpacked(0, row), i + 1);
        }
        dueIll("a byte behind them", row.length, joined(row, 0));
    }

    private static void pathLengthJustInside() {
        terms("a byte n (1 .. 20)");
        due("n 1", unpacked(0, entry("a")), 1);
        due("n 20", unpacked(0, entry("abcdefghij0123456789")), 1);
    }

    private static void pathLengthJustOutside() {
        terms("n isn't so (at that byte)");
        int[] ns = {0, 21, 128, 255};
        for (int n : ns) {
            dueIll("n " + n, 0, joined(new int[] {n}, times(30, 'a')));
            dueIll("n " + n + " in the second ENTRY", 5, joined(archive("a", 2), joined(new int[] {n}, times(30, 'a'))));
        }
    }

    private static void pathLengthBeforeWhatLacks() {
        terms("ILL, ENTRY by ENTRY, in this order: n isn't so (at that byte); more bytes");
        dueIll("n 0 and nothing behind", 0, 0);
        dueIll("n 21 and nothing behind", 0, 21);
        dueIll("n 255 and a wrong PATH", 0, 255, '/', 0);
    }

    private static void noPathAtAll() {
        terms("more bytes, up to m, would be wanted than there are (at the row's end)");
        dueIll("n 1 at the end", 1, 1);
        dueIll("n 20 at the end", 1, 20);
        dueIll("n 1 at the end of a second ENTRY", 4, joined(entry("a"), 1));
    }

    private static void halfAPath() {
        terms("more bytes, up to m, would be wanted than there are (at the row's end)");
        dueIll("19 of 20", 20, joined(new int[] {20}, times(19, 'a')));
        dueIll("1 of 2", 2, 2, 'a');
    }

    private static void noSizeBehindThePath() {
        terms("more bytes, up to m, would be wanted than there are (at the row's end)");
        dueIll("20 of 20, but no m", 21, joined(new int[] {20}, times(20, 'a')));
        dueIll("1 of 1, but no m", 2, 1, 'a');
        due("and with m", unpacked(0, 1, 'a', 0), 1);
    }

    private static void bytesUpToMBeforeThePath() {
        terms("more bytes, up to m, would be wanted than there are (at the row's end); the PATH isn't right");
        dueIll("a wrong PATH without m", 2, 1, '/');
        dueIll("half a wrong PATH", 3, 3, '.', '/');
        dueIll("the wrong PATH, with m", 1, 1, '/', 0);
    }

    private static void charactersJustInside() {
        terms("it has other characters than a .. z, 0 .. 9, . and /");
        String[] right = {"a", "z", "0", "9", "a.a", "a/a", "az09"};
        for (String path : right) {
            due(path, unpacked(0, entry(path)), 1);
        }
    }

    private static void charactersJustOutside() {
        terms("the PATH isn't right (at its first character): it has other characters than a .. z, 0 .. 9, . and /");
        for (int c = 0; c <= 255; c++) {
            boolean isRight = c >= 'a' && c <= 'z' || c >= '0' && c <= '9' || c == '.' || c == '/';
            due("character " + c + " within", unpacked(0, 3, 'a', c, 'a', 0), isRight ? 1 : -2);
            boolean isRightAlone = isRight && c != '.' && c != '/';
            due("character " + c + " alone", unpacked(0, 1, c, 0), isRightAlone ? 1 : -2);
        }
        dueIll("the last of 20", 1, entry("abcdefghij012345678A"));
        dueIll("told at the first character", 4, joined(entry("a"), entry("aaaaaaa-")));
    }

    private static void emptySegments() {
        terms("a SEGMENT (what is between /, and at the ends) is empty");
        String[] paths = {"/", "//", "/a", "a/", "a//b", "a/b/", "//a", "a//", "abcdefghij012345678/", "/abcdefghij012345678"};
        for (String path : paths) {
            dueIll(path, 1, entry(path));
        }
    }

    private static void segmentsOfDots() {
        terms("is empty, or . or ..");
        String[] paths = {".", "..", "./a", "../a", "a/.", "a/..", "a/./b", "a/../b", "./.", "../..", "a/b/c/..", "/.", "./"};
        for (String path : paths) {
            dueIll(path, 1, entry(path));
        }
    }

    private static void segmentsThatOnlyBeginOrEndWithDots() {
        terms("is empty, or . or ..");
        String[] paths = {"...", "....", ".a", "a.", "..a", "a..", ".a.", "a/...", ".../a", "a/.b", "a/b.", "a/..b", "a/b..", "a.b/c.d"};
        for (String path : paths) {
            due(path, unpacked(0, entry(path)), 1);
        }
    }

    private static void pathBeforeBytesThatLack() {
        terms("the PATH isn't right (at its first character)");
        dueIll("a wrong PATH and no bytes", 1, 2, '.', '.', 9);
        dueIll("a right PATH and no bytes", 4, 2, '.', 'a', 9);
    }

    private static void noBytesAreWantedByM0() {
        terms("a byte m, m bytes");
        due("m 0 at the end", unpacked(0, 1, 'a', 0), 1);
        due("m 0 and another ENTRY", unpacked(0, 1, 'a', 0, 1, 'b', 0), 2);
    }

    private static void bytesJustThere() {
        terms("the m bytes aren't there (at the row's end)");
        int[] sizes = {1, 2, 50, 97};
        for (int m : sizes) {
            due("m " + m, unpacked(0, archive("a", m)), 1);
        }
    }

    private static void bytesJustLacking() {
        terms("the m bytes aren't there (at the row's end)");
        int[] sizes = {1, 2, 50, 98};
        for (int m : sizes) {
            int[] row = without(archive("a", m), 1);
            dueIll("one less than m " + m, row.length, row);
        }
        dueIll("in the second ENTRY", 7, joined(archive("a", 1), 1, 'b', 1));
    }

    private static void mostBytesWanted() {
        terms("the m bytes aren't there (at the row's end)");
        dueIll("m 255 with none", 3, 1, 'a', 255);
        dueIll("m 255 with 97", 100, joined(new int[] {1, 'a', 255}, times(97, 1)));
        dueIll("m 128 with 97", 100, joined(new int[] {1, 'a', 128}, times(97, 1)));
    }

    private static void entryByEntry() {
        terms("ILL, ENTRY by ENTRY, in this order");
        dueIll("the first one's PATH before the second one's n", 1, joined(entry("."), 0));
        dueIll("the second one's n behind a right first one", 3, joined(entry("a"), 0));
        dueIll("the third one's PATH", 7, joined(joined(entry("a"), entry("b")), entry("/")));
    }

    private static void entriesLeftOutAreLookedAtToo() {
        terms("an ENTRY with no more than k is left out");
        for (int k = 0; k <= 5; k++) {
            due("a wrong PATH of one SEGMENT, k " + k, unpacked(k, entry("A")), -2);
            due("a wrong PATH behind a right one, k " + k, unpacked(k, joined(entry("a/b/c/d/e/f"), entry(".."))), -15);
        }
    }

    // ---- STRIPPED

    private static void strippedByNone() {
        terms("the first k SEGMENTS are left out");
        FetchRules x = doneWith(archive("a/b", 1));
        due("k 0", x.unpack(0, 0), 1);
        dueFile(x, 0, 5, 1, 1, 3);
    }

    private static void strippedByAsManyAsThereAre() {
        terms("an ENTRY with no more than k is left out");
        String[] paths = {"a", "a/b", "a/b/c", "a/b/c/d", "a/b/c/d/e"};
        for (int k = 1; k <= 5; k++) {
            due("k " + k + " of " + paths[k - 1], unpacked(k, entry(paths[k - 1])), 0);
        }
        due("k 5 of a", unpacked(5, entry("a")), 0);
    }

    private static void strippedByOneLess() {
        terms("the first k SEGMENTS are left out");
        String[] paths = {"a/bc", "a/b/cd", "a/b/c/de", "a/b/c/d/ef", "a/b/c/d/e/fg"};
        for (int k = 1; k <= 5; k++) {
            FetchRules x = doneWith(archive(paths[k - 1], 3));
            due("k " + k + " of " + paths[k - 1], x.unpack(0, k), 1);
            dueFile(x, 0, 4 + 2 * k, 3, 1 + 2 * k, 2);
        }
        FetchRules longer = doneWith(archive("abc/d/ef", 0));
        longer.unpack(0, 1);
        dueFile(longer, 0, 10, 0, 5, 4);
    }

    private static void strippedPathsThatBecomeOne() {
        terms("Of ENTRIES with one PATH (STRIPPED) the last one counts");
        int[] row = archive("a/x", 1, "b/x", 2, "x", 3, "c/d/x", 4);
        FetchRules x = doneWith(row);
        due("k 0", x.unpack(0, 0), 4);
        due("k 1", x.unpack(0, 1), 2);
        dueFile(x, 0, 11, 2, 3, 1);
        dueFile(x, 1, 26, 4, 22, 3);
        due("k 2", x.unpack(0, 2), 1);
        dueFile(x, 0, 26, 4, 24, 1);
    }

    private static void lastOfOnePathCounts() {
        terms("the last one counts");
        FetchRules x = doneWith(archive("a", 3, "a", 2, "a", 0));
        due("three of one PATH", x.unpack(0, 0), 1);
        dueFile(x, 0, 14, 0, 1, 1);
    }

    private static void pathsThatDifferAreTwo() {
        terms("ENTRIES with one PATH");
        String[][] pairs = {{"a", "b"}, {"a", "aa"}, {"aa", "a"}, {"ab", "ba"}, {"a/b", "a.b"}, {"aab", "aac"}, {"bab", "aab"}};
        for (String[] pair : pairs) {
            due(pair[0] + " and " + pair[1], unpacked(0, joined(entry(pair[0]), entry(pair[1]))), 2);
        }
    }

    // ---- Promise 20

    private static void fileJustInsideAndOutside() {
        promise(20, "NONE if there is none such");
        FetchRules x = doneWith(archive("a", 1, "b", 2));
        x.unpack(0, 0);
        dueFile(x, 0, 3, 1, 1, 1);
        dueFile(x, 1, 7, 2, 5, 1);
        for (int i : joined(FAR_OUT, -1, 2, 33)) {
            dueFile(x, i, NONE, NONE, NONE, NONE);
            for (int what = 0; what <= 3; what++) {
                int asked = what;
                refused("file(" + i + ", " + what + ")", NONE, Twins::furnished, y -> y.file(i, asked));
            }
        }
    }

    private static void fileAnotherWhat() {
        promise(20, "or for another what");
        FetchRules x = doneWith(archive("a", 1));
        x.unpack(0, 0);
        for (int what : joined(FAR_OUT, -1, 4)) {
            due("file(0, " + what + ")", x.file(0, what), NONE);
            refused("file(0, " + what + ")", NONE, Twins::furnished, y -> y.file(0, what));
        }
    }

    private static void fileBeforeAnyUnpack() {
        promise(20, "Of the latest unpack that was 0 or more");
        FetchRules x = doneWith(archive("a", 1));
        dueFile(x, 0, NONE, NONE, NONE, NONE);
    }

    /** WANT 0 is DONE with two FILES and unpacked, WANT 1 is DONE with a row that is ILL behind a whole ENTRY. */
    private static FetchRules unpackedBesideAnIllOne() {
        FetchRules x = doneWith(archive("a", 1, "b", 2));
        int ill = placeWith(x, 0, 50, joined(archive("c", 5), 0));
        begunFrom(x, x.digest(ill), ill);
        x.tick(1);
        due("unpack(0, 0)", x.unpack(0, 0), 2);
        return x;
    }

    private static void fileBehindARefusedUnpack() {
        promise(20, "Of the latest unpack that was 0 or more");
        refused("unpack(2, 0)", -1000, () -> unpackedBesideAnIllOne(), x -> x.unpack(2, 0));
        refused("unpack(0, 6)", -1000, () -> unpackedBesideAnIllOne(), x -> x.unpack(0, 6));
        refused("unpack(0, -1)", -1000, () -> unpackedBesideAnIllOne(), x -> x.unpack(0, -1));
    }

    private static void fileBehindAnIllUnpack() {
        promise(20, "Of the latest unpack that was 0 or more");
        refused("unpack(1, 0)", -9, () -> unpackedBesideAnIllOne(), x -> x.unpack(1, 0));
        FetchRules x = unpackedBesideAnIllOne();
        x.unpack(1, 0);
        dueFile(x, 0, 3, 1, 1, 1);
        dueFile(x, 1, 7, 2, 5, 1);
    }

    private static void fileBehindAnUnpackOfNone() {
        promise(20, "Of the latest unpack that was 0 or more");
        FetchRules x = unpackedBesideAnIllOne();
        due("unpack that was 0", x.unpack(0, 1), 0);
        dueFile(x, 0, NONE, NONE, NONE, NONE);
        dueFile(x, 1, NONE, NONE, NONE, NONE);
    }

    private static void fileBehindASmallerUnpack() {
        promise(20, "Of the latest unpack");
        FetchRules x = doneWith(archive("a", 0, "b/c", 1));
        due("k 0", x.unpack(0, 0), 2);
        due("k 1", x.unpack(0, 1), 1);
        dueFile(x, 0, 8, 1, 6, 1);
        dueFile(x, 1, NONE, NONE, NONE, NONE);
        due("k 0 again", x.unpack(0, 0), 2);
        dueFile(x, 0, 3, 0, 1, 1);
        dueFile(x, 1, 8, 1, 4, 3);
    }

    private static void fileOrderIsThatOfFirstComing() {
        promise(20, "FILES by the order in which their PATHS came first");
        FetchRules x = doneWith(archive("z", 1, "a", 2, "m", 3, "a", 4, "z", 5));
        due("three", x.unpack(0, 0), 3);
        dueFile(x, 0, 25, 5, 1, 1);
        dueFile(x, 1, 18, 4, 5, 1);
        dueFile(x, 2, 12, 3, 10, 1);
    }

    private static void filePathIsWhereItCameFirst() {
        promise(20, "the place of its PATH, STRIPPED, where that came first (2), how long it is (3)");
        FetchRules x = doneWith(archive("aaa/b/c", 0, "d/b/c", 1));
        due("k 1", x.unpack(0, 1), 1);
        dueFile(x, 0, 16, 1, 5, 3);
        due("k 2", x.unpack(0, 2), 1);
        dueFile(x, 0, 16, 1, 7, 1);
    }

    private static void filesAsManyAsCanBe() {
        promise(20, "the place of the i-th FILE's bytes");
        FetchRules x = doneWith(shortest(33));
        x.unpack(0, 0);
        for (int i = 0; i < 33; i++) {
            dueFile(x, i, 3 * i + 3, 0, 3 * i + 1, 1);
        }
        dueFile(x, 33, NONE, NONE, NONE, NONE);
    }

    private static void fileAtTheRowsEnd() {
        promise(20, "the place of the i-th FILE's bytes (what 0; FILES by the order in which their PATHS came first), how many there are (1)");
        FetchRules x = doneWith(archive("a", 94, "b", 0));
        due("its bytes", x.about(0, 2), 100);
        due("two", x.unpack(0, 0), 2);
        dueFile(x, 0, 3, 94, 1, 1);
        dueFile(x, 1, 100, 0, 98, 1);
        FetchRules y = doneWith(archive("abcdefghij0123456789", 78));
        y.unpack(0, 0);
        dueFile(y, 0, 22, 78, 1, 20);
    }
}
