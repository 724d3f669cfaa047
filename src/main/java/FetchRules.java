/**
 * Fetching by rules: WANTS are fetched from PLACES in order, checked by their DIGESTS, KEPT, and unpacked.
 *
 * <p>Everything an object ever needs is made in its constructor, so that no call makes an object.
 */
public final class FetchRules {
    public static final int NONE = -1;

    private static final int HOST_COUNT = 8;
    private static final int MOST_PLACES = 16;
    private static final int MOST_WANTS = 10;
    private static final int MOST_PLACES_OF_WANT = 6;
    private static final int MOST_BYTES = 100;
    private static final int MOST_BYTES_OF_NUMBER = 8;
    private static final int MOST_RATE = 50;
    private static final int MOST_RETRIES = 5;
    private static final int MOST_CUTS = 9;
    private static final int MOST_TICKS = 50;
    private static final int MOST_LEADS = 3;
    private static final int MOST_STRIPPED = 5;
    private static final int MOST_PATH = 20;

    // A WANT does not come back to a PLACE that is BARRED, so it tells of each of its PLACES once at the most.
    private static final int MOST_TELLINGS = MOST_WANTS * MOST_PLACES_OF_WANT;
    // The shortest ENTRY has three bytes: n, one character, m.
    private static final int MOST_FILES = MOST_BYTES / 3;

    private static final int IDLE = 0;
    private static final int FETCHES = 1;
    private static final int WAITS = 2;
    private static final int DONE = 3;
    private static final int FAILED = 4;

    private static final int DOES_GONE = 0;
    private static final int DOES_LEAD = 1;
    private static final int DOES_WANT = 2;
    private static final int DOES_LIE = 3;

    private static final int NOT_UNPACKED = -1000;

    private final int retries;
    private final boolean[] credentials = new boolean[HOST_COUNT];
    private final int[] sentCounts = new int[HOST_COUNT];
    private final Place[] places = new Place[MOST_PLACES];
    private int placeCount = 0;
    private final Want[] wants = new Want[MOST_WANTS];
    private int wantCount = 0;
    private final Store store = new Store();
    private final Tellings tellings = new Tellings();
    private final int[] lacking = new int[MOST_WANTS];
    private int lackingCount = 0;
    private final Files files = new Files();
    private boolean isOffLine = false;
    private int clock = 0;

    public FetchRules(int retries) {
        this.retries = Math.max(0, Math.min(MOST_RETRIES, retries));
        for (int i = 0; i < MOST_PLACES; i++) {
            places[i] = new Place();
        }
        for (int i = 0; i < MOST_WANTS; i++) {
            wants[i] = new Want();
        }
    }

    public boolean credential(int host, boolean on) {
        if (!isHost(host)) {
            return false;
        }
        credentials[host] = on;
        return true;
    }

    public int place(int host, int rate) {
        if (placeCount >= MOST_PLACES || !isHost(host) || rate < 1 || rate > MOST_RATE) {
            return NONE;
        }
        Place place = places[placeCount];
        place.host = host;
        place.rate = rate;
        return placeCount++;
    }

    public boolean content(int place, long w, int n) {
        if (!isPlace(place) || n < 1 || n > MOST_BYTES_OF_NUMBER) {
            return false;
        }
        Row row = places[place].bytes;
        if (row.length + n > MOST_BYTES) {
            return false;
        }
        for (int i = n - 1; i >= 0; i--) {
            row.append((int) (w >>> (8 * i)) & 0xFF);
        }
        return true;
    }

    public boolean does(int place, int kind, int which) {
        if (!isPlace(place)) {
            return false;
        }
        Place changed = places[place];
        switch (kind) {
            case DOES_GONE:
                changed.isGone = which != 0;
                return true;
            case DOES_LEAD:
                if (which != NONE && !isPlace(which)) {
                    return false;
                }
                changed.leadsTo = which;
                return true;
            case DOES_WANT:
                changed.wantsCredential = which != 0;
                return true;
            case DOES_LIE:
                changed.lies = which != 0;
                return true;
            default:
                return false;
        }
    }

    public boolean cut(int place, int times, int bytes) {
        if (!isPlace(place) || times < 0 || times > MOST_CUTS || bytes < 0 || bytes > MOST_BYTES) {
            return false;
        }
        places[place].cutsLeft = times;
        places[place].cutBytes = bytes;
        return true;
    }

    public int digest(int place) {
        return isPlace(place) ? places[place].bytes.computeDigest() : 0;
    }

    public int want(int digest) {
        if (wantCount >= MOST_WANTS) {
            return NONE;
        }
        wants[wantCount].wantedDigest = digest;
        return wantCount++;
    }

    public boolean from(int want, int place) {
        if (!isWant(want) || !isPlace(place) || wants[want].state != IDLE) {
            return false;
        }
        return wants[want].addPlace(place);
    }

    public void offLine(boolean on) {
        isOffLine = on;
        lackingCount = 0;
    }

    public int begin(int want) {
        if (!isWant(want) || wants[want].isBusy()) {
            return NONE;
        }
        Want begun = wants[want];
        int kept = store.find(begun.wantedDigest);
        if (kept != NONE) {
            begun.bytes.copyFrom(store.rows[kept]);
            begun.state = DONE;
        } else if (isOffLine) {
            begun.state = FAILED;
            noteLacking(want);
        } else {
            fetchFrom(begun, 0);
        }
        return begun.state;
    }

    public int tick(int n) {
        if (n < 0 || n > MOST_TICKS) {
            return NONE;
        }
        for (int i = 0; i < n; i++) {
            moveClock();
        }
        return countBusy();
    }

    public int about(int want, int what) {
        if (!isWant(want)) {
            return NONE;
        }
        Want asked = wants[want];
        switch (what) {
            case 0:
                return asked.state;
            case 1:
                return asked.isBusy() ? asked.currentPlace() : NONE;
            case 2:
                return asked.bytes.length;
            case 3:
                return asked.state == WAITS ? asked.waitsTill : NONE;
            case 4:
                return asked.turns;
            default:
                return NONE;
        }
    }

    public int byteOf(int want, int i) {
        return isWant(want) ? wants[want].bytes.at(i) : NONE;
    }

    public int barred(int i, int what) {
        if (!tellings.has(i)) {
            return NONE;
        }
        switch (what) {
            case 0:
                return tellings.wantNumbers[i];
            case 1:
                return tellings.placeNumbers[i];
            default:
                return NONE;
        }
    }

    public int came(int i) {
        return tellings.has(i) ? tellings.digests[i] : 0;
    }

    public int lacks(int i) {
        return i >= 0 && i < lackingCount ? lacking[i] : NONE;
    }

    public int sent(int host) {
        return isHost(host) ? sentCounts[host] : 0;
    }

    public int unpack(int want, int k) {
        if (!isWant(want) || wants[want].state != DONE || k < 0 || k > MOST_STRIPPED) {
            return NOT_UNPACKED;
        }
        Row row = wants[want].bytes;
        // The whole row is looked at first, since an ILL one leaves the FILES of the unpack before it.
        int ill = Archive.findIll(row);
        if (ill != NONE) {
            return -1 - ill;
        }
        files.fill(row, k);
        return files.count;
    }

    public int file(int i, int what) {
        if (!files.has(i)) {
            return NONE;
        }
        switch (what) {
            case 0:
                return files.bytesStarts[i];
            case 1:
                return files.bytesLengths[i];
            case 2:
                return files.pathStarts[i];
            case 3:
                return files.pathLengths[i];
            default:
                return NONE;
        }
    }

    private static boolean isHost(int host) {
        return host >= 0 && host < HOST_COUNT;
    }

    private boolean isPlace(int place) {
        return place >= 0 && place < placeCount;
    }

    private boolean isWant(int want) {
        return want >= 0 && want < wantCount;
    }

    private void noteLacking(int want) {
        for (int i = 0; i < lackingCount; i++) {
            if (lacking[i] == want) {
                return;
            }
        }
        if (lackingCount < MOST_WANTS) {
            lacking[lackingCount++] = want;
        }
    }

    private int countBusy() {
        int busy = 0;
        for (int i = 0; i < wantCount; i++) {
            if (wants[i].isBusy()) {
                busy++;
            }
        }
        return busy;
    }

    private void moveClock() {
        clock++;
        for (int i = 0; i < wantCount; i++) {
            Want want = wants[i];
            if (want.state == WAITS && want.waitsTill <= clock) {
                want.state = FETCHES;
            }
            if (want.state == FETCHES) {
                takeTurn(i);
            }
        }
    }

    private void takeTurn(int number) {
        Want want = wants[number];
        want.turns++;
        int giver = ask(want.currentPlace());
        if (giver == NONE) {
            giveUp(want);
            return;
        }
        Place place = places[giver];
        boolean wasCut = place.giveTo(want.bytes);
        if (want.bytes.length >= place.bytes.length) {
            checkDigest(number);
        } else if (wasCut) {
            falter(want);
        }
    }

    /** Asks a PLACE, and those it LEADS to: the one that gives bytes, or NONE if none does. */
    private int ask(int first) {
        if (!isPlace(first)) {
            return NONE;
        }
        int asked = first;
        boolean carries = credentials[places[asked].host];
        countSent(asked, carries);
        for (int led = 0; led < MOST_LEADS && places[asked].leadsOn(); led++) {
            int next = places[asked].leadsTo;
            // Once lost, a CREDENTIAL does not come back, even where the first HOST is asked again.
            carries = carries && places[next].host == places[asked].host;
            asked = next;
            countSent(asked, carries);
        }
        // One that LEADS still is the fourth time, and so TOO FAR.
        return places[asked].gives(carries) ? asked : NONE;
    }

    private void countSent(int place, boolean carries) {
        if (carries) {
            sentCounts[places[place].host]++;
        }
    }

    private void checkDigest(int number) {
        Want want = wants[number];
        int digestThatCame = want.bytes.computeDigest();
        if (digestThatCame == want.wantedDigest) {
            want.state = DONE;
            store.keep(digestThatCame, want.bytes);
            return;
        }
        // The WANT's own PLACE is BARRED, not the one that it LED to.
        int place = want.currentPlace();
        if (isPlace(place)) {
            places[place].isBarred = true;
            tellings.tell(number, place, digestThatCame);
        }
        giveUp(want);
    }

    private void falter(Want want) {
        if (want.falters >= retries) {
            giveUp(want);
            return;
        }
        want.waitsTill = clock + (1 << want.falters);
        want.falters++;
        want.state = WAITS;
    }

    private void giveUp(Want want) {
        fetchFrom(want, want.current + 1);
    }

    /** A WANT that finds no PLACE has its bytes still: the document takes them only from one that FETCHES. */
    private void fetchFrom(Want want, int first) {
        for (int i = first; i < want.placeCount; i++) {
            if (!places[want.placeNumbers[i]].isBarred) {
                want.startAt(i);
                return;
            }
        }
        want.state = FAILED;
    }

    /** A row of at most 100 bytes, each 0 .. 255. */
    private static final class Row {
        final int[] values = new int[MOST_BYTES];
        int length = 0;

        int at(int i) {
            return i >= 0 && i < length ? values[i] : NONE;
        }

        void append(int value) {
            if (length < MOST_BYTES) {
                values[length++] = value;
            }
        }

        void copyFrom(Row other) {
            System.arraycopy(other.values, 0, values, 0, other.length);
            length = other.length;
        }

        int computeDigest() {
            int s = 0;
            for (int i = 0; i < length; i++) {
                int mixed = s ^ values[i];
                s = (mixed << 5 | mixed >>> 27) * 0x85EBCA77;
            }
            return s;
        }

        boolean hasSame(int start, int otherStart, int count) {
            for (int i = 0; i < count; i++) {
                if (at(start + i) != at(otherStart + i)) {
                    return false;
                }
            }
            return true;
        }
    }

    private static final class Place {
        final Row bytes = new Row();
        int host = 0;
        int rate = 1;
        int leadsTo = NONE;
        int cutsLeft = 0;
        int cutBytes = 0;
        boolean isGone = false;
        boolean wantsCredential = false;
        boolean lies = false;
        boolean isBarred = false;

        boolean leadsOn() {
            return !isGone && leadsTo != NONE;
        }

        boolean gives(boolean hasCredential) {
            return !isGone && leadsTo == NONE && (hasCredential || !wantsCredential);
        }

        /** One answer: the bytes behind those that a row has come to it; whether the answer was CUT. */
        boolean giveTo(Row row) {
            boolean isCut = cutsLeft > 0;
            int most = rate;
            if (isCut) {
                cutsLeft--;
                most = Math.min(most, cutBytes);
            }
            int end = Math.min(bytes.length, row.length + most);
            for (int i = row.length; i < end; i++) {
                row.append(givenByte(i));
            }
            return isCut;
        }

        private int givenByte(int i) {
            return i == 0 && lies ? bytes.at(i) ^ 1 : bytes.at(i);
        }
    }

    private static final class Want {
        final Row bytes = new Row();
        final int[] placeNumbers = new int[MOST_PLACES_OF_WANT];
        int placeCount = 0;
        int wantedDigest = 0;
        int state = IDLE;
        int current = 0;
        int falters = 0;
        int waitsTill = 0;
        int turns = 0;

        boolean isBusy() {
            return state == FETCHES || state == WAITS;
        }

        int currentPlace() {
            return current >= 0 && current < placeCount ? placeNumbers[current] : NONE;
        }

        boolean addPlace(int place) {
            if (placeCount >= MOST_PLACES_OF_WANT) {
                return false;
            }
            for (int i = 0; i < placeCount; i++) {
                if (placeNumbers[i] == place) {
                    return false;
                }
            }
            placeNumbers[placeCount++] = place;
            return true;
        }

        void startAt(int index) {
            current = index;
            falters = 0;
            bytes.length = 0;
            state = FETCHES;
        }
    }

    /** KEPT rows. Each has the DIGEST of a WANT, and no two have the same, so there are no more than WANTS. */
    private static final class Store {
        final int[] digests = new int[MOST_WANTS];
        final Row[] rows = new Row[MOST_WANTS];
        int count = 0;

        Store() {
            for (int i = 0; i < MOST_WANTS; i++) {
                rows[i] = new Row();
            }
        }

        int find(int wanted) {
            for (int i = 0; i < count; i++) {
                if (digests[i] == wanted) {
                    return i;
                }
            }
            return NONE;
        }

        void keep(int digestOfRow, Row row) {
            if (find(digestOfRow) != NONE || count >= MOST_WANTS) {
                return;
            }
            digests[count] = digestOfRow;
            rows[count].copyFrom(row);
            count++;
        }
    }

    /** What was told each time that a PLACE was BARRED. */
    private static final class Tellings {
        final int[] wantNumbers = new int[MOST_TELLINGS];
        final int[] placeNumbers = new int[MOST_TELLINGS];
        final int[] digests = new int[MOST_TELLINGS];
        int count = 0;

        boolean has(int i) {
            return i >= 0 && i < count;
        }

        void tell(int wantNumber, int placeNumber, int digestThatCame) {
            if (count >= MOST_TELLINGS) {
                return;
            }
            wantNumbers[count] = wantNumber;
            placeNumbers[count] = placeNumber;
            digests[count] = digestThatCame;
            count++;
        }
    }

    /** How a row is read as ENTRIES, each told by the place of its byte n. */
    private static final class Archive {
        /** The place at which a row is ILL, or NONE. */
        static int findIll(Row row) {
            int entry = 0;
            for (int seen = 0; seen < MOST_BYTES && entry < row.length; seen++) {
                int ill = findIllOfEntry(row, entry);
                if (ill != NONE) {
                    return ill;
                }
                entry = entryEnd(row, entry);
            }
            return NONE;
        }

        private static int findIllOfEntry(Row row, int entry) {
            int n = row.at(entry);
            if (n < 1 || n > MOST_PATH) {
                return entry;
            }
            if (pathEnd(row, entry) >= row.length) {
                return row.length;
            }
            if (!isRightPath(row, entry + 1, pathEnd(row, entry))) {
                return entry + 1;
            }
            return entryEnd(row, entry) > row.length ? row.length : NONE;
        }

        /** Where the PATH of an ENTRY ends, which is where its byte m is. */
        static int pathEnd(Row row, int entry) {
            return entry + 1 + row.at(entry);
        }

        static int entryEnd(Row row, int entry) {
            int sizePlace = pathEnd(row, entry);
            return sizePlace + 1 + row.at(sizePlace);
        }

        private static boolean isRightPath(Row row, int start, int end) {
            int segment = start;
            for (int i = start; i < end; i++) {
                int character = row.at(i);
                if (character == '/') {
                    if (!isRightSegment(row, segment, i)) {
                        return false;
                    }
                    segment = i + 1;
                } else if (!isPathCharacter(character)) {
                    return false;
                }
            }
            return isRightSegment(row, segment, end);
        }

        private static boolean isPathCharacter(int character) {
            return character >= 'a' && character <= 'z' || character >= '0' && character <= '9' || character == '.';
        }

        private static boolean isRightSegment(Row row, int start, int end) {
            int length = end - start;
            if (length <= 0) {
                return false;
            }
            // With one character the first is the last, so this tells . as well as ..
            return length > 2 || row.at(start) != '.' || row.at(end - 1) != '.';
        }

        /** Where a right PATH goes on behind its first k SEGMENTS; its end if it has no more than these. */
        static int strippedStart(Row row, int start, int end, int k) {
            int goesOn = start;
            int left = k;
            for (int i = start; i < end && left > 0; i++) {
                if (row.at(i) == '/') {
                    goesOn = i + 1;
                    left--;
                }
            }
            return left > 0 ? end : goesOn;
        }
    }

    /** The FILES of the latest unpack, as places in the row that was unpacked. */
    private static final class Files {
        final int[] bytesStarts = new int[MOST_FILES];
        final int[] bytesLengths = new int[MOST_FILES];
        final int[] pathStarts = new int[MOST_FILES];
        final int[] pathLengths = new int[MOST_FILES];
        int count = 0;

        boolean has(int i) {
            return i >= 0 && i < count;
        }

        /** Takes the FILES of a row that is not ILL. */
        void fill(Row row, int k) {
            count = 0;
            int entry = 0;
            for (int seen = 0; seen < MOST_FILES && entry < row.length; seen++) {
                int pathEnd = Archive.pathEnd(row, entry);
                int pathStart = Archive.strippedStart(row, entry + 1, pathEnd, k);
                if (pathStart < pathEnd) {
                    put(row, pathStart, pathEnd);
                }
                entry = Archive.entryEnd(row, entry);
            }
        }

        private void put(Row row, int pathStart, int pathEnd) {
            int length = pathEnd - pathStart;
            int i = findPath(row, pathStart, length);
            if (i >= MOST_FILES) {
                return;
            }
            if (i == count) {
                pathStarts[i] = pathStart;
                pathLengths[i] = length;
                count++;
            }
            bytesStarts[i] = pathEnd + 1;
            bytesLengths[i] = row.at(pathEnd);
        }

        /** The FILE with that PATH, or the one that comes next if there is none. */
        private int findPath(Row row, int pathStart, int length) {
            for (int i = 0; i < count; i++) {
                if (pathLengths[i] == length && row.hasSame(pathStarts[i], pathStart, length)) {
                    return i;
                }
            }
            return count;
        }
    }
}
