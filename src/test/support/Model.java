import java.util.ArrayList;
import java.util.LinkedHashMap;
import java.util.LinkedHashSet;
import java.util.List;
import java.util.Map;

/**
 * The document once more, written from its words with the Java library and without thought for room or speed, so that
 * long runs have an answer that is due for each call.
 */
final class Model {
    private static final int NONE = -1;
    private static final int NOT_UNPACKED = -1000;

    private enum State { IDLE, FETCHES, WAITS, DONE, FAILED }

    private static final class Place {
        int host;
        int rate;
        List<Integer> content = new ArrayList<>();
        boolean gone;
        boolean wants;
        boolean lies;
        boolean barred;
        Place lead;
        int cutTimes;
        int cutBytes;
    }

    private static final class Want {
        int digest;
        List<Place> places = new ArrayList<>();
        State state = State.IDLE;
        List<Integer> bytes = List.of();
        Place at;
        int faltered;
        int till;
        int turns;
    }

    private record Telling(int want, int place, int digest) { }

    private record Found(int bytes, int count, int path, int length) { }

    private final int retries;
    private final boolean[] credentials = new boolean[8];
    private final int[] sent = new int[8];
    private final List<Place> places = new ArrayList<>();
    private final List<Want> wants = new ArrayList<>();
    private final Map<Integer, List<Integer>> kept = new LinkedHashMap<>();
    private final List<Telling> tellings = new ArrayList<>();
    private final LinkedHashSet<Integer> lacking = new LinkedHashSet<>();
    private List<Found> files = List.of();
    private boolean offLine;
    private int clock;

    Model(int retries) {
        this.retries = retries < 0 ? 0 : retries > 5 ? 5 : retries;
    }

    private static <T> boolean has(List<T> list, int i) {
        return 0 <= i && i < list.size();
    }

    private static long digestOf(List<Integer> bytes) {
        int s = 0;
        for (int b : bytes) {
            s = Integer.rotateLeft(s ^ b, 5) * 0x85EBCA77;
        }
        return s;
    }

    long credential(int host, boolean on) {
        if (host < 0 || host > 7) {
            return 0;
        }
        credentials[host] = on;
        return 1;
    }

    long place(int host, int rate) {
        if (places.size() == 16 || host < 0 || host > 7 || rate < 1 || rate > 50) {
            return NONE;
        }
        Place place = new Place();
        place.host = host;
        place.rate = rate;
        places.add(place);
        return places.size() - 1;
    }

    long content(int place, long w, int n) {
        if (!has(places, place) || n < 1 || n > 8 || places.get(place).content.size() > 100 - n) {
            return 0;
        }
        String digits = String.format("%016x", w).substring(16 - 2 * n);
        for (int i = 0; i < n; i++) {
            places.get(place).content.add(Integer.parseInt(digits.substring(2 * i, 2 * i + 2), 16));
        }
        return 1;
    }

    long does(int place, int kind, int which) {
        if (!has(places, place) || kind < 0 || kind > 3 || kind == 1 && which != NONE && !has(places, which)) {
            return 0;
        }
        Place p = places.get(place);
        p.gone = kind == 0 ? which != 0 : p.gone;
        p.lead = kind == 1 ? which == NONE ? null : places.get(which) : p.lead;
        p.wants = kind == 2 ? which != 0 : p.wants;
        p.lies = kind == 3 ? which != 0 : p.lies;
        return 1;
    }

    long cut(int place, int times, int bytes) {
        if (!has(places, place) || times < 0 || times > 9 || bytes < 0 || bytes > 100) {
            return 0;
        }
        places.get(place).cutTimes = times;
        places.get(place).cutBytes = bytes;
        return 1;
    }

    long digest(int place) {
        return has(places, place) ? digestOf(places.get(place).content) : 0;
    }

    long want(int digest) {
        if (wants.size() == 10) {
            return NONE;
        }
        Want want = new Want();
        want.digest = digest;
        wants.add(want);
        return wants.size() - 1;
    }

    long from(int want, int place) {
        if (!has(wants, want) || !has(places, place)) {
            return 0;
        }
        Want w = wants.get(want);
        if (w.places.contains(places.get(place)) || w.places.size() == 6 || w.state != State.IDLE) {
            return 0;
        }
        w.places.add(places.get(place));
        return 1;
    }

    long offLine(boolean on) {
        offLine = on;
        lacking.clear();
        return 0;
    }

    long begin(int want) {
        if (!has(wants, want) || isBusy(wants.get(want))) {
            return NONE;
        }
        Want w = wants.get(want);
        if (kept.containsKey(w.digest)) {
            w.bytes = kept.get(w.digest);
            w.state = State.DONE;
        } else if (offLine) {
            w.state = State.FAILED;
            lacking.add(want);
        } else {
            fetchFrom(w, w.places);
        }
        return w.state.ordinal();
    }

    private static boolean isBusy(Want want) {
        return want.state == State.FETCHES || want.state == State.WAITS;
    }

    private static void fetchFrom(Want want, List<Place> left) {
        want.state = State.FAILED;
        for (Place place : left) {
            if (!place.barred) {
                want.state = State.FETCHES;
                want.at = place;
                want.bytes = List.of();
                want.faltered = 0;
                return;
            }
        }
    }

    private static void giveUp(Want want) {
        fetchFrom(want, want.places.subList(want.places.indexOf(want.at) + 1, want.places.size()));
    }

    long tick(int n) {
        if (n < 0 || n > 50) {
            return NONE;
        }
        for (int i = 0; i < n; i++) {
            clock++;
            for (Want want : wants) {
                if (want.state == State.WAITS && clock >= want.till) {
                    want.state = State.FETCHES;
                }
                if (want.state == State.FETCHES) {
                    turn(want);
                }
            }
        }
        return wants.stream().filter(Model::isBusy).count();
    }

    private void turn(Want want) {
        want.turns++;
        List<Place> asked = new ArrayList<>(List.of(want.at));
        while (asked.get(asked.size() - 1).lead != null && !asked.get(asked.size() - 1).gone && asked.size() < 5) {
            asked.add(asked.get(asked.size() - 1).lead);
        }
        boolean tooFar = asked.size() == 5;
        boolean carries = credentials[want.at.host];
        for (Place place : tooFar ? asked.subList(0, 4) : asked) {
            carries &= place.host == want.at.host;
            sent[place.host] += carries ? 1 : 0;
        }
        Place last = asked.get(asked.size() - 1);
        if (tooFar || last.gone || last.wants && !carries) {
            giveUp(want);
            return;
        }
        take(want, last);
    }

    private void take(Want want, Place place) {
        boolean cut = place.cutTimes > 0;
        int most = cut ? Math.min(place.cutBytes, place.rate) : place.rate;
        place.cutTimes -= cut ? 1 : 0;
        List<Integer> given = new ArrayList<>(place.content);
        if (place.lies && !given.isEmpty()) {
            given.set(0, given.get(0) ^ 1);
        }
        List<Integer> bytes = new ArrayList<>(want.bytes);
        while (most-- > 0 && bytes.size() < given.size()) {
            bytes.add(given.get(bytes.size()));
        }
        want.bytes = bytes;
        if (bytes.size() < given.size()) {
            if (cut) {
                falter(want);
            }
        } else if (digestOf(bytes) == want.digest) {
            want.state = State.DONE;
            kept.putIfAbsent(want.digest, bytes);
        } else {
            want.at.barred = true;
            tellings.add(new Telling(wants.indexOf(want), places.indexOf(want.at), (int) digestOf(bytes)));
            giveUp(want);
        }
    }

    private void falter(Want want) {
        if (want.faltered == retries) {
            giveUp(want);
            return;
        }
        int[] waits = {1, 2, 4, 8, 16};
        want.state = State.WAITS;
        want.till = clock + waits[want.faltered++];
    }

    long about(int want, int what) {
        if (!has(wants, want) || what < 0 || what > 4) {
            return NONE;
        }
        Want w = wants.get(want);
        int[] answers = {w.state.ordinal(), isBusy(w) ? places.indexOf(w.at) : NONE, w.bytes.size(),
            w.state == State.WAITS ? w.till : NONE, w.turns};
        return answers[what];
    }

    long byteOf(int want, int i) {
        return has(wants, want) && has(wants.get(want).bytes, i) ? wants.get(want).bytes.get(i) : NONE;
    }

    long barred(int i, int what) {
        if (!has(tellings, i) || what < 0 || what > 1) {
            return NONE;
        }
        return what == 0 ? tellings.get(i).want() : tellings.get(i).place();
    }

    long came(int i) {
        return has(tellings, i) ? tellings.get(i).digest() : 0;
    }

    long lacks(int i) {
        List<Integer> inOrder = new ArrayList<>(lacking);
        return has(inOrder, i) ? inOrder.get(i) : NONE;
    }

    long sent(int host) {
        return host < 0 || host > 7 ? 0 : sent[host];
    }

    long unpack(int want, int k) {
        if (!has(wants, want) || wants.get(want).state != State.DONE || k < 0 || k > 5) {
            return NOT_UNPACKED;
        }
        StringBuilder row = new StringBuilder();
        wants.get(want).bytes.forEach(b -> row.append((char) (int) b));
        Map<String, Found> found = new LinkedHashMap<>();
        int i = 0;
        while (i < row.length()) {
            int n = row.charAt(i);
            if (n < 1 || n > 20) {
                return -1 - i;
            }
            if (row.length() - i < n + 2) {
                return -1 - row.length();
            }
            String path = row.substring(i + 1, i + 1 + n);
            if (!path.matches("(?!\\.{0,2}(/|$))[a-z0-9.]+(/(?!\\.{0,2}(/|$))[a-z0-9.]+)*")) {
                return -2 - i;
            }
            int m = row.charAt(i + 1 + n);
            int bytes = i + 2 + n;
            if (bytes + m > row.length()) {
                return -1 - row.length();
            }
            String[] segments = path.split("/", k + 1);
            if (segments.length == k + 1) {
                String stripped = segments[k];
                int at = i + 1 + n - stripped.length();
                Found first = found.getOrDefault(stripped, new Found(0, 0, at, stripped.length()));
                found.put(stripped, new Found(bytes, m, first.path(), first.length()));
            }
            i = bytes + m;
        }
        files = List.copyOf(found.values());
        return files.size();
    }

    long file(int i, int what) {
        if (!has(files, i) || what < 0 || what > 3) {
            return NONE;
        }
        Found f = files.get(i);
        int[] answers = {f.bytes(), f.count(), f.path(), f.length()};
        return answers[what];
    }
}
