import java.io.IOException;
import java.nio.file.Files;
import java.nio.file.Path;
import java.util.ArrayList;
import java.util.Arrays;
import java.util.List;

/** What the tests of the project share: how an answer is looked at, and how PLACES, WANTS and ARCHIVES are made. */
abstract class Checks {
    static final int NONE = -1;
    static final int IDLE = 0;
    static final int FETCHES = 1;
    static final int WAITS = 2;
    static final int DONE = 3;
    static final int FAILED = 4;
    static final int LOW = Integer.MIN_VALUE;
    static final int HIGH = Integer.MAX_VALUE;

    private static final Path DOCUMENT = Path.of("../shared/DOC.md");

    /** What the answers that follow are held to. */
    static String heldTo = "";

    private static int wrong = 0;
    private static int checked = 0;
    private static String document = null;

    // ---- how an answer is looked at

    static void due(String what, long got, long want) {
        checked++;
        if (got != want) {
            complain(what + " answered " + got + ", due is " + want);
        }
    }

    static void due(String what, boolean got, boolean want) {
        due(what, got ? 1L : 0L, want ? 1L : 0L);
    }

    static void dueText(String what, Object got, Object want) {
        checked++;
        if (!String.valueOf(got).equals(String.valueOf(want))) {
            complain(what + " answered " + got + ", due is " + want);
        }
    }

    static void complain(String what) {
        wrong++;
        System.out.println(heldTo + ": " + what);
    }

    /** Ends a test: with exit code 1 if an answer was not as due. */
    static void end() {
        System.out.println(wrong == 0 ? checked + " answers are as due" : wrong + " answers are not as due");
        if (wrong != 0) {
            System.exit(1);
        }
    }

    /** The answers that follow are held to these words of what the document begins with. */
    static void opening(String words) {
        quote("What it is", "## What it is", words);
    }

    /** The answers that follow are held to these words of a promise. */
    static void promise(int number, String words) {
        quote("Promise " + number, "## Promise " + number + ":", words);
    }

    /** The answers that follow are held to these words of the terms. */
    static void terms(String words) {
        quote("Terms", "## Terms", words);
    }

    /** A test that quotes what the document does not say would hold the class to nothing. */
    private static void quote(String name, String heading, String words) {
        heldTo = name + " '" + words + "'";
        String text = readDocument();
        int from = text.indexOf(heading);
        int to = text.indexOf(" ## ", from + 1);
        if (from < 0 || !text.substring(from, to < 0 ? text.length() : to).contains(words)) {
            complain("these words don't stand there in " + DOCUMENT);
        }
    }

    private static String readDocument() {
        if (document == null) {
            try {
                document = Files.readString(DOCUMENT).replaceAll("\\s+", " ");
            } catch (IOException e) {
                document = "";
                complain("no document at " + DOCUMENT);
            }
        }
        return document;
    }

    // ---- what objects are made of

    /** The DIGEST by 64-bit numbers that are masked, so that it does not share a slip with the class. */
    static int digestOf(int... bytes) {
        long s = 0;
        for (int b : bytes) {
            long v = (s ^ b) & 0xFFFFFFFFL;
            v = (v << 5 | v >>> 27) & 0xFFFFFFFFL;
            s = v * 0x85EBCA77L & 0xFFFFFFFFL;
        }
        return (int) s;
    }

    /** The bytes 1, 2, .. n. */
    static int[] upTo(int n) {
        int[] bytes = new int[n];
        for (int i = 0; i < n; i++) {
            bytes[i] = i + 1;
        }
        return bytes;
    }

    static int[] times(int n, int value) {
        int[] bytes = new int[n];
        Arrays.fill(bytes, value);
        return bytes;
    }

    static int placeWith(FetchRules x, int host, int rate, int... bytes) {
        int place = x.place(host, rate);
        for (int b : bytes) {
            x.content(place, b, 1);
        }
        return place;
    }

    static int wantFrom(FetchRules x, int digest, int... places) {
        int want = x.want(digest);
        for (int place : places) {
            x.from(want, place);
        }
        return want;
    }

    static int begunFrom(FetchRules x, int digest, int... places) {
        int want = wantFrom(x, digest, places);
        x.begin(want);
        return want;
    }

    /** WANT 0 is DONE with these bytes, of PLACE 0. */
    static FetchRules doneWith(int... bytes) {
        FetchRules x = new FetchRules(0);
        begunFrom(x, digestOf(bytes), placeWith(x, 0, 50, bytes));
        x.tick(2);
        return x;
    }

    /** ENTRIES: a path, then how many bytes it has, all of them 7. */
    static int[] archive(Object... pathsAndSizes) {
        List<Integer> row = new ArrayList<>();
        for (int i = 0; i < pathsAndSizes.length; i += 2) {
            String path = (String) pathsAndSizes[i];
            int size = (Integer) pathsAndSizes[i + 1];
            row.add(path.length());
            for (char c : path.toCharArray()) {
                row.add((int) c);
            }
            row.add(size);
            for (int j = 0; j < size; j++) {
                row.add(7);
            }
        }
        return row.stream().mapToInt(Integer::intValue).toArray();
    }

    /** ENTRIES of three bytes each: one character (up to 36 different ones), none behind. */
    static int[] shortest(int entries) {
        int[] row = new int[3 * entries];
        for (int i = 0; i < entries; i++) {
            row[3 * i] = 1;
            row[3 * i + 1] = i < 26 ? 'a' + i : '0' + i - 26;
        }
        return row;
    }

    static int[] without(int[] bytes, int atEnd) {
        return Arrays.copyOf(bytes, bytes.length - atEnd);
    }

    static int[] joined(int[] first, int... second) {
        int[] both = Arrays.copyOf(first, first.length + second.length);
        System.arraycopy(second, 0, both, first.length, second.length);
        return both;
    }

    static void dueFile(FetchRules x, int i, int start, int length, int path, int pathLength) {
        due("file(" + i + ", 0)", x.file(i, 0), start);
        due("file(" + i + ", 1)", x.file(i, 1), length);
        due("file(" + i + ", 2)", x.file(i, 2), path);
        due("file(" + i + ", 3)", x.file(i, 3), pathLength);
    }
}
