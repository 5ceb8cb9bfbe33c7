import java.util.ArrayList;
import java.util.Arrays;
import java.util.HashMap;
import java.util.List;
import java.util.Map;
import java.util.NoSuchElementException;

/**
 * The document told a second time, with lists and maps and no care for speed, so that long runs of
 * calls can be compared with Tuneward. It has the same methods.
 */
final class PlainRoom {
    static final class Note {
        int start;
        int length;
        int pitch;
        int certainty;
    }

    /** How a tune is laid: a place and a key for each note, the place -1 for none. */
    static final class Way {
        int[] place;
        int[] key;
        int cost;
    }

    private List<Integer> samples = new ArrayList<>();
    private final List<int[]> frames = new ArrayList<>();
    private final List<List<int[]>> songs = new ArrayList<>();
    private final List<int[]> singers = new ArrayList<>();
    private final int[] masteries = new int[13];
    private char tuning = 'e';
    private int[] cents = table('e');
    private int low = 4800;
    private int high = 7200;
    private int tired = 0;
    private boolean learnt = false;

    PlainRoom() {
        Arrays.fill(masteries, 20);
    }

    private static int[] table(char name) {
        switch (name) {
            case 'j': return new int[] {0, 112, 204, 316, 386, 498, 590, 702, 814, 884, 1018, 1088};
            case 'p': return new int[] {0, 90, 204, 294, 408, 498, 612, 702, 792, 906, 996, 1110};
            default:
                int[] equal = new int[12];
                for (int i = 0; i < 12; i++) {
                    equal[i] = 100 * i;
                }
                return equal;
        }
    }

    private static void within(int x, int a, int b) {
        if (x < a || x > b) {
            throw new IllegalArgumentException();
        }
    }

    public int sample(int value) {
        within(value, -99, 99);
        if (samples.size() == 48) {
            throw new IllegalStateException();
        }
        samples.add(value);
        return samples.size();
    }

    public int period() {
        int n = samples.size();
        if (n < 4) {
            throw new NoSuchElementException();
        }
        Map<Integer, Integer> distances = new HashMap<>();
        int least = Integer.MAX_VALUE;
        for (int lag = 2; lag <= 24; lag++) {
            if (n >= 2 * lag) {
                int sum = 0;
                int many = 0;
                for (int i = lag; i < n; i++) {
                    sum += Math.abs(samples.get(i - lag) - samples.get(i));
                    many++;
                }
                distances.put(lag, 100 * sum / many);
                least = Math.min(least, 100 * sum / many);
            }
        }
        samples = new ArrayList<>();
        for (int lag = 2; lag <= 24; lag++) {
            if (distances.containsKey(lag) && distances.get(lag) - least - 5 <= least / 10) {
                return lag;
            }
        }
        throw new AssertionError("no lag");
    }

    public int frame(int pitch, int loudness, int certainty) {
        within(pitch, 0, 9999);
        within(loudness, 0, 99);
        within(certainty, 0, 99);
        if (frames.size() == 120) {
            throw new IllegalStateException();
        }
        frames.add(new int[] {pitch, loudness, certainty});
        if (sounds(frames.size() - 1)) {
            tired += loudness / 20;
            if (tired > 300) {
                tired = 300;
            }
        }
        learnt = false;
        return frames.size();
    }

    private boolean sounds(int i) {
        return frames.get(i)[1] >= 10 && frames.get(i)[2] >= 50;
    }

    public int hush() {
        int n = frames.size();
        frames.clear();
        return n;
    }

    public int move(int by) {
        within(by, -2400, 2400);
        for (int[] f : frames) {
            if (f[0] + by < 0 || f[0] + by > 9999) {
                throw new UnsupportedOperationException();
            }
        }
        for (int[] f : frames) {
            f[0] += by;
        }
        learnt = false;
        return frames.size();
    }

    private List<Note> found() {
        List<Note> found = new ArrayList<>();
        int i = 0;
        while (i < frames.size()) {
            if (!sounds(i)) {
                i++;
                continue;
            }
            int j = i + 1;
            while (j < frames.size() && sounds(j)
                    && Math.abs(frames.get(j)[0] - frames.get(j - 1)[0]) <= 40) {
                j++;
            }
            if (j - i >= 3 && found.size() < 16) {
                found.add(noteOf(i, j));
            }
            i = j;
        }
        return found;
    }

    private Note noteOf(int i, int j) {
        Note note = new Note();
        note.start = i;
        note.length = j - i;
        int edge = (j - i) / 4;
        List<Integer> middle = new ArrayList<>();
        for (int at = i + edge; at < j - edge; at++) {
            middle.add(frames.get(at)[0]);
        }
        middle.sort(null);
        int many = middle.size();
        note.pitch = many % 2 == 1 ? middle.get(many / 2) : middle.get(many / 2 - 1);
        int sum = 0;
        for (int at = i; at < j; at++) {
            sum += frames.get(at)[2];
        }
        note.certainty = sum / (j - i);
        return note;
    }

    private Note note(int n) {
        if (n < 0 || n >= found().size()) {
            throw new IndexOutOfBoundsException();
        }
        return found().get(n);
    }

    public int notes() {
        return found().size();
    }

    public int startOf(int n) {
        return note(n).start;
    }

    public int lengthOf(int n) {
        return note(n).length;
    }

    public int pitchOf(int n) {
        return note(n).pitch;
    }

    public int certaintyOf(int n) {
        return note(n).certainty;
    }

    public int song() {
        if (songs.size() == 5) {
            throw new IllegalStateException();
        }
        songs.add(new ArrayList<>());
        return songs.size() - 1;
    }

    private List<int[]> theSong(int s) {
        if (s < 0 || s >= songs.size()) {
            throw new IndexOutOfBoundsException();
        }
        return songs.get(s);
    }

    public int add(int s, int step, int beats) {
        List<int[]> song = theSong(s);
        within(step, 0, 24);
        within(beats, 1, 16);
        if (song.size() == 16) {
            throw new IllegalStateException();
        }
        song.add(new int[] {step, beats});
        return song.size();
    }

    public int sizeOf(int s) {
        return theSong(s).size();
    }

    public char tune(char name) {
        if ("ejp".indexOf(name) < 0) {
            throw new IllegalArgumentException();
        }
        char before = tuning;
        tuning = name;
        cents = table(name);
        return before;
    }

    public int tuneStep(int step, int to) {
        within(step, 0, 11);
        within(to, 0, 1199);
        int before = cents[step];
        cents[step] = to;
        return before;
    }

    public int centsOf(int step) {
        within(step, 0, 24);
        int octaves = 0;
        int left = step;
        while (left >= 12) {
            left -= 12;
            octaves++;
        }
        return 1200 * octaves + cents[left];
    }

    private Way best(int s) {
        int[] sung = found().stream().mapToInt(n -> n.pitch).toArray();
        int[] asked = songs.get(s).stream().mapToInt(n -> centsOf(n[0])).toArray();
        return bestOf(sung, asked);
    }

    /** Each note in turn takes the first of its choices, in the order of the document, that costs least. */
    static Way bestOf(int[] sung, int[] asked) {
        Map<Integer, int[]> known = new HashMap<>();
        bestFrom(0, 0, 0, sung, asked, known);
        Way way = new Way();
        way.place = new int[sung.length];
        way.key = new int[sung.length];
        way.cost = known.get(code(0, 0, 0))[0];
        int free = 0;
        int last = 0;
        for (int i = 0; i < sung.length; i++) {
            int[] choice = known.get(code(i, free, last));
            way.place[i] = choice[1];
            way.key[i] = choice[2];
            if (choice[1] >= 0) {
                free = choice[1] + 1;
                last = choice[2];
            }
        }
        return way;
    }

    private static int code(int i, int free, int last) {
        return i * 10000 + free * 100 + last + 8;
    }

    private static int bestFrom(int i, int free, int last, int[] sung, int[] asked,
            Map<Integer, int[]> known) {
        int[] done = known.get(code(i, free, last));
        if (done != null) {
            return done[0];
        }
        int[] choice;
        if (i == sung.length) {
            choice = new int[] {30 * (asked.length - free), -1, 0};
        } else {
            choice = new int[] {30 + bestFrom(i + 1, free, last, sung, asked, known), -1, 0};
            for (int place = free; place < asked.length; place++) {
                for (int key = -8; key <= 8; key++) {
                    int cost = 30 * (place - free) + 3 * Math.abs(key - last)
                            + Math.abs(offOf(sung, asked, i, place, key)) / 10
                            + bestFrom(i + 1, place + 1, key, sung, asked, known);
                    if (cost < choice[0]) {
                        choice = new int[] {cost, place, key};
                    }
                }
            }
        }
        known.put(code(i, free, last), choice);
        return choice[0];
    }

    static int offOf(int[] sung, int[] asked, int note, int place, int key) {
        int keyPitch = sung[0] - asked[0] + 25 * key;
        return sung[note] - (asked[place] + keyPitch);
    }

    private Way whole(int s) {
        List<int[]> song = theSong(s);
        if (found().isEmpty() || song.isEmpty()) {
            throw new UnsupportedOperationException();
        }
        return best(s);
    }

    private Way forNote(int s, int n) {
        List<int[]> song = theSong(s);
        note(n);
        if (song.isEmpty()) {
            throw new UnsupportedOperationException();
        }
        return best(s);
    }

    private Way forLaid(int s, int n) {
        Way way = forNote(s, n);
        if (way.place[n] < 0) {
            throw new NoSuchElementException();
        }
        return way;
    }

    public int cost(int s) {
        return whole(s).cost;
    }

    public int laidOn(int s, int n) {
        return forNote(s, n).place[n];
    }

    public int keyOf(int s, int n) {
        return forLaid(s, n).key[n];
    }

    public int off(int s, int n) {
        return offOn(s, n, forLaid(s, n));
    }

    private int offOn(int s, int n, Way way) {
        int[] sung = found().stream().mapToInt(x -> x.pitch).toArray();
        int[] asked = songs.get(s).stream().mapToInt(x -> centsOf(x[0])).toArray();
        return offOf(sung, asked, n, way.place[n], way.key[n]);
    }

    private static int ahead(Way way, int n) {
        int ahead = -1;
        for (int i = 0; i < n; i++) {
            if (way.place[i] >= 0) {
                ahead = i;
            }
        }
        return ahead;
    }

    public char kindOf(int s, int n) {
        return kindOn(s, n, forNote(s, n));
    }

    private char kindOn(int s, int n, Way way) {
        if (way.place[n] < 0) {
            return 'n';
        }
        List<Note> found = found();
        Note note = found.get(n);
        int ahead = ahead(way, n);
        int off = offOn(s, n, way);
        if (note.certainty < 60) {
            return 'u';
        }
        if (note.pitch < low || note.pitch > high) {
            return 'r';
        }
        if (ahead >= 0) {
            int step = songs.get(s).get(way.place[n])[0];
            int stepAhead = songs.get(s).get(way.place[ahead])[0];
            int sungLeap = Math.abs(note.pitch - found.get(ahead).pitch);
            int askedLeap = Math.abs(centsOf(step) - centsOf(stepAhead));
            if (Math.abs(step - stepAhead) >= 5 && askedLeap - sungLeap > 30) {
                return 'l';
            }
        }
        return off > 20 ? 's' : off < -20 ? 'f' : 'o';
    }

    public int drift(int s) {
        Way way = whole(s);
        List<Integer> keys = new ArrayList<>();
        for (int i = 0; i < way.place.length; i++) {
            if (way.place[i] >= 0) {
                keys.add(way.key[i]);
            }
        }
        return keys.isEmpty() ? 0 : keys.get(keys.size() - 1) - keys.get(0);
    }

    public int lost(int s) {
        Way way = whole(s);
        int lost = 0;
        for (int i = 0; i < way.place.length; i++) {
            if (way.place[i] >= 0 && ahead(way, i) >= 0
                    && Math.abs(way.key[i] - way.key[ahead(way, i)]) >= 3) {
                lost++;
            }
        }
        return lost;
    }

    public int sung() {
        int which = -1;
        for (int s = songs.size() - 1; s >= 0; s--) {
            if (!found().isEmpty() && !songs.get(s).isEmpty()
                    && (which < 0 || best(s).cost <= best(which).cost)) {
                which = s;
            }
        }
        if (which < 0) {
            throw new NoSuchElementException();
        }
        return which;
    }

    public int lean(int s, int n) {
        Way way = forLaid(s, n);
        int allFrames = 0;
        int allBeats = 0;
        for (int i = 0; i < way.place.length; i++) {
            if (way.place[i] >= 0) {
                allFrames += found().get(i).length;
                allBeats += songs.get(s).get(way.place[i])[1];
            }
        }
        return found().get(n).length * allBeats - songs.get(s).get(way.place[n])[1] * allFrames;
    }

    public int range(int from, int to) {
        within(from, 0, 9999);
        within(to, 0, 9999);
        if (to < from) {
            throw new IllegalArgumentException();
        }
        int before = low;
        low = from;
        high = to;
        return before;
    }

    public int tired() {
        return tired;
    }

    public int rest(int days) {
        within(days, 1, 99);
        for (int i = 0; i < days; i++) {
            tired = tired < 60 ? 0 : tired - 60;
        }
        return tired;
    }

    public int learn(int s) {
        Way way = whole(s);
        if (learnt) {
            throw new IllegalStateException();
        }
        int changes = 0;
        for (int i = 0; i < way.place.length; i++) {
            int ahead = ahead(way, i);
            if (way.place[i] < 0 || ahead < 0) {
                continue;
            }
            int interval = Math.abs(songs.get(s).get(way.place[i])[0]
                    - songs.get(s).get(way.place[ahead])[0]);
            if (interval > 12) {
                continue;
            }
            char kind = kindOn(s, i, way);
            int by = kind == 'o' ? 5 : "lsf".indexOf(kind) >= 0 ? -3 : 0;
            int to = Math.max(0, Math.min(99, masteries[interval] + by));
            if (to != masteries[interval]) {
                changes++;
            }
            masteries[interval] = to;
        }
        learnt = true;
        return changes;
    }

    public int mastery(int interval) {
        within(interval, 0, 12);
        return masteries[interval];
    }

    public int next() {
        for (int i = 0; i <= 12; i++) {
            boolean reached = i == 0 || masteries[i - 1] >= 40;
            if (reached && masteries[i] < 70) {
                return i;
            }
        }
        throw new NoSuchElementException();
    }

    public int seat(int off, int pull) {
        within(off, -99, 99);
        within(pull, 0, 10);
        if (singers.size() == 8) {
            throw new IllegalStateException();
        }
        singers.add(new int[] {off, pull});
        return singers.size() - 1;
    }

    public int choir(int steps) {
        within(steps, 1, 60);
        if (singers.isEmpty()) {
            throw new UnsupportedOperationException();
        }
        for (int t = 0; t < steps; t++) {
            int[] then = new int[singers.size()];
            for (int i = 0; i < then.length; i++) {
                then[i] = afterStep(i);
            }
            for (int i = 0; i < then.length; i++) {
                singers.get(i)[0] = then[i];
            }
        }
        int sum = 0;
        for (int[] singer : singers) {
            sum += singer[0];
        }
        return Math.floorDiv(sum, singers.size());
    }

    private int afterStep(int i) {
        List<Integer> beside = new ArrayList<>();
        if (i > 0) {
            beside.add(singers.get(i - 1)[0]);
        }
        if (i + 1 < singers.size()) {
            beside.add(singers.get(i + 1)[0]);
        }
        int off = singers.get(i)[0];
        if (!beside.isEmpty()) {
            int sum = 0;
            for (int x : beside) {
                sum += x;
            }
            int mean = Math.floorDiv(sum, beside.size());
            off += singers.get(i)[1] * (mean - off) / 20;
        }
        off -= 1;
        return off < -999 ? -999 : off;
    }

    private int[] singer(int n) {
        if (n < 0 || n >= singers.size()) {
            throw new IndexOutOfBoundsException();
        }
        return singers.get(n);
    }

    public int offOf(int n) {
        return singer(n)[0];
    }

    public int swap(int n, int other) {
        int[] one = singer(n);
        int[] two = singer(other);
        singers.set(n, two);
        singers.set(other, one);
        return blend();
    }

    public int blend() {
        int sum = 0;
        for (int i = 0; i + 1 < singers.size(); i++) {
            sum += Math.abs(singers.get(i)[0] - singers.get(i + 1)[0]);
        }
        return sum;
    }

    private static List<Integer> row(List<int[]> song) {
        List<Integer> row = new ArrayList<>();
        for (int i = 0; i + 1 < song.size(); i++) {
            row.add(song.get(i + 1)[0] - song.get(i)[0]);
        }
        return row;
    }

    private static int changes(List<Integer> a, List<Integer> b) {
        int[][] d = new int[a.size() + 1][b.size() + 1];
        for (int i = 0; i <= a.size(); i++) {
            for (int j = 0; j <= b.size(); j++) {
                if (i == 0 || j == 0) {
                    d[i][j] = i + j;
                } else {
                    int other = a.get(i - 1).equals(b.get(j - 1)) ? 0 : 1;
                    d[i][j] = Math.min(d[i - 1][j - 1] + other,
                            Math.min(d[i - 1][j] + 1, d[i][j - 1] + 1));
                }
            }
        }
        return d[a.size()][b.size()];
    }

    public int distance(int s, int other) {
        return changes(row(theSong(s)), row(theSong(other)));
    }

    public int parent(int s) {
        theSong(s);
        if (s == 0) {
            throw new NoSuchElementException();
        }
        int parent = s - 1;
        for (int i = s - 2; i >= 0; i--) {
            if (distance(s, i) < distance(s, parent)) {
                parent = i;
            }
        }
        return parent;
    }

    public float share(int s) {
        Way way = whole(s);
        int good = 0;
        for (int i = 0; i < way.place.length; i++) {
            if (kindOn(s, i, way) == 'o') {
                good++;
            }
        }
        return (float) good / (float) way.place.length;
    }

    public double meanPitch() {
        List<Note> found = found();
        if (found.isEmpty()) {
            throw new ArithmeticException();
        }
        long sum = 0;
        for (Note note : found) {
            sum += note.pitch;
        }
        return (double) sum / (double) found.size();
    }

    public long checksum() {
        List<Integer> all = new ArrayList<>();
        for (Note note : found()) {
            all.add(note.pitch);
            all.add(note.length);
        }
        for (List<int[]> song : songs) {
            all.add(song.size());
        }
        for (int mastery : masteries) {
            all.add(mastery);
        }
        for (int[] singer : singers) {
            all.add(singer[0]);
        }
        all.add(tired);
        long sum = 7;
        for (int one : all) {
            sum = 31 * sum + one;
        }
        return sum;
    }

    public boolean isTrue() {
        return true;
    }
}
