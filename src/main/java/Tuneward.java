import java.util.NoSuchElementException;

/**
 * A child who sings a little beside the note, and those who listen: pitch found in samples, notes
 * told from slides, a tune laid on the songs it may be, what is off and why, breath, lessons, a
 * choir and variants.
 */
public final class Tuneward {
    private static final int SONGS = 5;
    private static final int HIGHEST_PITCH = 9999;
    private static final int HIGHEST_MOVE = 2400;
    private static final int MOST_DAYS = 99;
    private static final int MOST_STEPS_SUNG = 60;
    private static final int TEST_MOVE = 100;

    private final Samples samples;
    private final Frames frames;
    private final Melody melody;
    private final Song[] songs;
    private final Tuning tuning;
    private final Path path;
    private final Voice voice;
    private final Lessons lessons;
    private final Choir singers;
    private final Variants variants;
    private int songCount;
    private boolean learnt;

    public Tuneward() {
        samples = new Samples();
        frames = new Frames();
        melody = new Melody();
        tuning = new Tuning();
        path = new Path();
        voice = new Voice();
        lessons = new Lessons();
        singers = new Choir();
        variants = new Variants();
        songs = new Song[SONGS];
        for (int song = 0; song < SONGS; song++) {
            songs[song] = new Song();
        }
    }

    public int sample(int value) throws IllegalArgumentException, IllegalStateException {
        needWithin(value, -Samples.LOUDEST, Samples.LOUDEST);
        if (samples.count >= Samples.MOST) {
            throw new IllegalStateException("there are as many samples as can be");
        }
        samples.put(value);
        return samples.count;
    }

    public int period() throws NoSuchElementException {
        if (samples.count < 2 * Samples.LEAST_LAG) {
            throw new NoSuchElementException("too few samples for a lag");
        }
        int lag = samples.findLag();
        samples.clear();
        return lag;
    }

    public int frame(int pitch, int loudness, int certainty)
            throws IllegalArgumentException, IllegalStateException {
        needWithin(pitch, 0, HIGHEST_PITCH);
        needWithin(loudness, 0, Frames.HIGHEST);
        needWithin(certainty, 0, Frames.HIGHEST);
        if (frames.count >= Frames.MOST) {
            throw new IllegalStateException("there are as many frames as can be");
        }
        frames.put(pitch, loudness, certainty);
        if (frames.sounds(frames.count - 1)) {
            voice.tire(loudness);
        }
        learnt = false;
        return frames.count;
    }

    public int hush() {
        int before = frames.count;
        frames.clear();
        return before;
    }

    public int move(int cents) throws IllegalArgumentException, UnsupportedOperationException {
        needWithin(cents, -HIGHEST_MOVE, HIGHEST_MOVE);
        if (!frames.canMove(cents)) {
            throw new UnsupportedOperationException("a pitch would be out of range");
        }
        frames.moveBy(cents);
        learnt = false;
        return frames.count;
    }

    public int notes() {
        melody.listen(frames);
        return melody.count;
    }

    public int startOf(int note) throws IndexOutOfBoundsException {
        return melody.starts[heardNote(note)];
    }

    public int lengthOf(int note) throws IndexOutOfBoundsException {
        return melody.lengths[heardNote(note)];
    }

    public int pitchOf(int note) throws IndexOutOfBoundsException {
        return melody.pitches[heardNote(note)];
    }

    public int certaintyOf(int note) throws IndexOutOfBoundsException {
        return melody.certainties[heardNote(note)];
    }

    public int song() throws IllegalStateException {
        if (songCount >= SONGS) {
            throw new IllegalStateException("there are as many songs as can be");
        }
        int begun = songCount;
        songCount++;
        return begun;
    }

    public int add(int song, int step, int beats)
            throws IndexOutOfBoundsException, IllegalArgumentException, IllegalStateException {
        Song chosen = songAt(song);
        needWithin(step, 0, Song.HIGHEST_STEP);
        needWithin(beats, 1, Song.MOST_BEATS);
        if (chosen.size >= Song.NOTES) {
            throw new IllegalStateException("the song has as many notes as it can");
        }
        chosen.put(step, beats);
        return chosen.size;
    }

    public int sizeOf(int song) throws IndexOutOfBoundsException {
        return songAt(song).size;
    }

    public char tune(char tuning) throws IllegalArgumentException {
        if (!Tuning.isKnown(tuning)) {
            throw new IllegalArgumentException("there is no such tuning");
        }
        char before = this.tuning.chosen;
        this.tuning.choose(tuning);
        return before;
    }

    public int tuneStep(int step, int cents) throws IllegalArgumentException {
        needWithin(step, 0, Tuning.STEPS - 1);
        needWithin(cents, 0, Tuning.OCTAVE - 1);
        int before = tuning.cents[step];
        tuning.cents[step] = cents;
        return before;
    }

    public int centsOf(int step) throws IllegalArgumentException {
        needWithin(step, 0, Song.HIGHEST_STEP);
        return tuning.pitchOfStep(step);
    }

    public int cost(int song) throws IndexOutOfBoundsException, UnsupportedOperationException {
        layWhole(song);
        return path.total();
    }

    public int laidOn(int song, int note)
            throws IndexOutOfBoundsException, UnsupportedOperationException {
        layForNote(song, note);
        return path.places[note];
    }

    public int keyOf(int song, int note)
            throws IndexOutOfBoundsException, UnsupportedOperationException,
            NoSuchElementException {
        layForNote(song, note);
        needLaid(note);
        return path.keys[note];
    }

    public int off(int song, int note)
            throws IndexOutOfBoundsException, UnsupportedOperationException,
            NoSuchElementException {
        layForNote(song, note);
        needLaid(note);
        return path.offBy(note);
    }

    public char kindOf(int song, int note)
            throws IndexOutOfBoundsException, UnsupportedOperationException {
        Song chosen = layForNote(song, note);
        return kindOn(chosen, note);
    }

    public int drift(int song) throws IndexOutOfBoundsException, UnsupportedOperationException {
        layWhole(song);
        return path.keyDrift();
    }

    public int lost(int song) throws IndexOutOfBoundsException, UnsupportedOperationException {
        layWhole(song);
        return path.lostKeys();
    }

    public int sung() throws NoSuchElementException {
        melody.listen(frames);
        int best = -1;
        int least = 0;
        for (int song = 0; song < songCount; song++) {
            if (melody.count > 0 && songs[song].size > 0) {
                path.lay(melody, songs[song], tuning, 0);
                if (best < 0 || path.total() < least) {
                    best = song;
                    least = path.total();
                }
            }
        }
        if (best < 0) {
            throw new NoSuchElementException("no notes, or no song with notes");
        }
        return best;
    }

    public int lean(int song, int note)
            throws IndexOutOfBoundsException, UnsupportedOperationException,
            NoSuchElementException {
        Song chosen = layForNote(song, note);
        needLaid(note);
        int allFrames = 0;
        int allBeats = 0;
        for (int at = 0; at < melody.count; at++) {
            if (path.isLaid(at)) {
                allFrames += melody.lengths[at];
                allBeats += chosen.beats[path.places[at]];
            }
        }
        return melody.lengths[note] * allBeats - chosen.beats[path.places[note]] * allFrames;
    }

    public int range(int low, int high) throws IllegalArgumentException {
        needWithin(low, 0, HIGHEST_PITCH);
        needWithin(high, low, HIGHEST_PITCH);
        int before = voice.low;
        voice.low = low;
        voice.high = high;
        return before;
    }

    public int tired() {
        return voice.tiredness;
    }

    public int rest(int days) throws IllegalArgumentException {
        needWithin(days, 1, MOST_DAYS);
        voice.recover(days);
        return voice.tiredness;
    }

    public int learn(int song)
            throws IndexOutOfBoundsException, UnsupportedOperationException,
            IllegalStateException {
        Song chosen = layWhole(song);
        if (learnt) {
            throw new IllegalStateException("it was learnt by a song since it was sung");
        }
        int changes = 0;
        for (int note = 0; note < melody.count; note++) {
            int ahead = path.laidAhead(note);
            if (path.isLaid(note) && ahead >= 0) {
                int interval = Math.abs(chosen.steps[path.places[note]]
                        - chosen.steps[path.places[ahead]]);
                if (lessons.practise(interval, kindOn(chosen, note))) {
                    changes++;
                }
            }
        }
        learnt = true;
        return changes;
    }

    public int mastery(int interval) throws IllegalArgumentException {
        needWithin(interval, 0, Lessons.WIDEST);
        return lessons.masteries[interval];
    }

    public int next() throws NoSuchElementException {
        int interval = lessons.learnable();
        if (interval < 0) {
            throw new NoSuchElementException("no interval is next learnable");
        }
        return interval;
    }

    public int seat(int off, int pull) throws IllegalArgumentException, IllegalStateException {
        needWithin(off, -Choir.MOST_OFF, Choir.MOST_OFF);
        needWithin(pull, 0, Choir.MOST_PULL);
        if (singers.count >= Choir.SEATS) {
            throw new IllegalStateException("all seats are taken");
        }
        int seat = singers.count;
        singers.put(off, pull);
        return seat;
    }

    public int choir(int steps) throws IllegalArgumentException, UnsupportedOperationException {
        needWithin(steps, 1, MOST_STEPS_SUNG);
        if (singers.count < 1) {
            throw new UnsupportedOperationException("there are no singers");
        }
        for (int step = 0; step < steps; step++) {
            singers.singStep();
        }
        return singers.meanOff();
    }

    public int offOf(int singer) throws IndexOutOfBoundsException {
        needSinger(singer);
        return singers.offs[singer];
    }

    public int swap(int singer, int other) throws IndexOutOfBoundsException {
        needSinger(singer);
        needSinger(other);
        singers.exchange(singer, other);
        return singers.unlikeness();
    }

    public int blend() {
        return singers.unlikeness();
    }

    public int distance(int song, int other) throws IndexOutOfBoundsException {
        Song one = songAt(song);
        Song two = songAt(other);
        return variants.changes(one, two);
    }

    public int parent(int song) throws IndexOutOfBoundsException, NoSuchElementException {
        Song child = songAt(song);
        if (song == 0) {
            throw new NoSuchElementException("the first song has no parent");
        }
        int nearest = 0;
        int least = variants.changes(child, songs[0]);
        for (int other = 1; other < song; other++) {
            int changes = variants.changes(child, songs[other]);
            if (changes <= least) {
                nearest = other;
                least = changes;
            }
        }
        return nearest;
    }

    public float share(int song) throws IndexOutOfBoundsException, UnsupportedOperationException {
        Song chosen = layWhole(song);
        int good = 0;
        for (int note = 0; note < melody.count; note++) {
            if (kindOn(chosen, note) == 'o') {
                good++;
            }
        }
        return (float) good / (float) melody.count;
    }

    public double meanPitch() throws ArithmeticException {
        melody.listen(frames);
        if (melody.count < 1) {
            throw new ArithmeticException("there are no notes");
        }
        int sum = 0;
        for (int note = 0; note < melody.count; note++) {
            sum += melody.pitches[note];
        }
        return (double) sum / (double) melody.count;
    }

    public long checksum() {
        melody.listen(frames);
        long sum = 7L;
        for (int note = 0; note < melody.count; note++) {
            sum = 31L * sum + melody.pitches[note];
            sum = 31L * sum + melody.lengths[note];
        }
        for (int song = 0; song < songCount; song++) {
            sum = 31L * sum + songs[song].size;
        }
        for (int interval = 0; interval <= Lessons.WIDEST; interval++) {
            sum = 31L * sum + lessons.masteries[interval];
        }
        for (int singer = 0; singer < singers.count; singer++) {
            sum = 31L * sum + singers.offs[singer];
        }
        return 31L * sum + voice.tiredness;
    }

    public boolean isTrue() {
        melody.listen(frames);
        if (!melody.isInOrder() || !lessons.areInRange()) {
            return false;
        }
        for (int song = 0; song < songCount; song++) {
            if (melody.count > 0 && songs[song].size > 0 && !pathHolds(songs[song])) {
                return false;
            }
        }
        return true;
    }

    private boolean pathHolds(Song song) {
        path.lay(melody, song, tuning, TEST_MOVE);
        int moved = path.total();
        path.lay(melody, song, tuning, 0);
        return path.total() == moved && path.isLeastAround();
    }

    private static void needWithin(int number, int low, int high) {
        if (number < low || number > high) {
            throw new IllegalArgumentException("a number is out of range");
        }
    }

    private void needSinger(int singer) {
        if (singer < 0 || singer >= singers.count) {
            throw new IndexOutOfBoundsException("there is no such singer");
        }
    }

    private void needLaid(int note) {
        if (!path.isLaid(note)) {
            throw new NoSuchElementException("the note is laid on none");
        }
    }

    private Song songAt(int song) {
        if (song < 0 || song >= songCount) {
            throw new IndexOutOfBoundsException("there is no such song");
        }
        return songs[song];
    }

    private int heardNote(int note) {
        melody.listen(frames);
        if (note < 0 || note >= melody.count) {
            throw new IndexOutOfBoundsException("there is no such note");
        }
        return note;
    }

    private Song layWhole(int song) {
        Song chosen = songAt(song);
        melody.listen(frames);
        if (melody.count < 1 || chosen.size < 1) {
            throw new UnsupportedOperationException("no notes, or the song has none");
        }
        path.lay(melody, chosen, tuning, 0);
        return chosen;
    }

    private Song layForNote(int song, int note) {
        Song chosen = songAt(song);
        heardNote(note);
        if (chosen.size < 1) {
            throw new UnsupportedOperationException("the song has no notes");
        }
        path.lay(melody, chosen, tuning, 0);
        return chosen;
    }

    private char kindOn(Song song, int note) {
        if (!path.isLaid(note)) {
            return 'n';
        }
        if (melody.certainties[note] < Melody.SURE) {
            return 'u';
        }
        if (melody.pitches[note] < voice.low || melody.pitches[note] > voice.high) {
            return 'r';
        }
        if (isLeapTooSmall(song, note)) {
            return 'l';
        }
        int off = path.offBy(note);
        if (off > Path.GOOD) {
            return 's';
        }
        return off < -Path.GOOD ? 'f' : 'o';
    }

    private boolean isLeapTooSmall(Song song, int note) {
        int ahead = path.laidAhead(note);
        if (ahead < 0) {
            return false;
        }
        int steps = song.steps[path.places[note]] - song.steps[path.places[ahead]];
        return Math.abs(steps) >= Path.LEAP
                && path.leapAsked(ahead, note) - path.leapSung(ahead, note) > Path.LEAP_SHORT;
    }

    /** Samples in the order in which they came, till a period is found in them. */
    private static final class Samples {
        static final int MOST = 48;
        static final int LOUDEST = 99;
        static final int LEAST_LAG = 2;
        static final int GREATEST_LAG = 24;
        private static final int SCALE = 100;
        private static final int SLACK = 5;

        private final int[] values = new int[MOST];
        private int count;

        void put(int value) {
            if (count < MOST) {
                values[count] = value;
                count++;
            }
        }

        void clear() {
            count = 0;
        }

        int findLag() {
            int least = distanceAt(LEAST_LAG);
            for (int lag = LEAST_LAG + 1; lag <= GREATEST_LAG && 2 * lag <= count; lag++) {
                least = Math.min(least, distanceAt(lag));
            }
            int enough = least + least / 10 + SLACK;
            for (int lag = LEAST_LAG; lag <= GREATEST_LAG && 2 * lag <= count; lag++) {
                if (distanceAt(lag) <= enough) {
                    return lag;
                }
            }
            return LEAST_LAG;
        }

        private int distanceAt(int lag) {
            int pairs = count - lag;
            if (pairs < 1) {
                return 0;
            }
            int sum = 0;
            for (int at = 0; at < pairs; at++) {
                sum += Math.abs(values[at] - values[at + lag]);
            }
            return sum * SCALE / pairs;
        }
    }

    /** Frames in the order in which they were sung. */
    private static final class Frames {
        static final int MOST = 120;
        static final int HIGHEST = 99;
        private static final int LOUD = 10;
        private static final int CERTAIN = 50;
        private static final int SAME_TONE = 40;

        private final int[] pitches = new int[MOST];
        private final int[] loudnesses = new int[MOST];
        private final int[] certainties = new int[MOST];
        private int count;

        void put(int pitch, int loudness, int certainty) {
            if (count < MOST) {
                pitches[count] = pitch;
                loudnesses[count] = loudness;
                certainties[count] = certainty;
                count++;
            }
        }

        void clear() {
            count = 0;
        }

        boolean sounds(int at) {
            return at >= 0 && at < count && loudnesses[at] >= LOUD && certainties[at] >= CERTAIN;
        }

        boolean goesOn(int at) {
            return sounds(at) && sounds(at + 1)
                    && Math.abs(pitches[at + 1] - pitches[at]) <= SAME_TONE;
        }

        boolean canMove(int cents) {
            for (int at = 0; at < count; at++) {
                int moved = pitches[at] + cents;
                if (moved < 0 || moved > HIGHEST_PITCH) {
                    return false;
                }
            }
            return true;
        }

        void moveBy(int cents) {
            for (int at = 0; at < count; at++) {
                pitches[at] += cents;
            }
        }
    }

    /** The notes that are found in frames. */
    private static final class Melody {
        static final int NOTES = 16;
        static final int SURE = 60;
        private static final int LEAST_FRAMES = 3;
        private static final int EDGE = 4;

        private final int[] starts = new int[NOTES];
        private final int[] lengths = new int[NOTES];
        private final int[] pitches = new int[NOTES];
        private final int[] certainties = new int[NOTES];
        private final int[] sorted = new int[Frames.MOST];
        private int count;

        void listen(Frames frames) {
            count = 0;
            int length = 0;
            for (int at = 0; at < frames.count; at++) {
                if (!frames.sounds(at)) {
                    length = 0;
                } else if (length > 0 && frames.goesOn(at - 1)) {
                    length++;
                } else {
                    length = 1;
                }
                if (length >= LEAST_FRAMES && !frames.goesOn(at)) {
                    take(frames, at - length + 1, length);
                }
            }
        }

        boolean isInOrder() {
            for (int note = 1; note < count; note++) {
                if (starts[note] < starts[note - 1] + lengths[note - 1]) {
                    return false;
                }
            }
            return true;
        }

        private void take(Frames frames, int start, int length) {
            if (count < NOTES) {
                starts[count] = start;
                lengths[count] = length;
                pitches[count] = middlePitch(frames, start, length);
                certainties[count] = meanCertainty(frames, start, length);
                count++;
            }
        }

        private int middlePitch(Frames frames, int start, int length) {
            int edge = length / EDGE;
            int kept = length - 2 * edge;
            if (kept < 1) {
                return 0;
            }
            for (int at = 0; at < kept; at++) {
                insert(frames.pitches[start + edge + at], at);
            }
            return sorted[(kept - 1) / 2];
        }

        private void insert(int pitch, int filled) {
            int at = filled;
            for (; at > 0 && sorted[at - 1] > pitch; at--) {
                sorted[at] = sorted[at - 1];
            }
            sorted[at] = pitch;
        }

        private static int meanCertainty(Frames frames, int start, int length) {
            if (length < 1) {
                return 0;
            }
            int sum = 0;
            for (int at = start; at < start + length; at++) {
                sum += frames.certainties[at];
            }
            return sum / length;
        }
    }

    /** A song as steps and beats; pitches come from the tuning when they are asked for. */
    private static final class Song {
        static final int NOTES = 16;
        static final int HIGHEST_STEP = 24;
        static final int MOST_BEATS = 16;

        private final int[] steps = new int[NOTES];
        private final int[] beats = new int[NOTES];
        private int size;

        void put(int step, int beat) {
            if (size < NOTES) {
                steps[size] = step;
                beats[size] = beat;
                size++;
            }
        }

        int leaps() {
            return size > 1 ? size - 1 : 0;
        }

        int leapAt(int at) {
            return at >= 0 && at < leaps() ? steps[at + 1] - steps[at] : 0;
        }
    }

    /** The cents of the twelve steps. */
    private static final class Tuning {
        static final int STEPS = 12;
        static final int OCTAVE = 1200;
        private static final int[] EQUAL =
                {0, 100, 200, 300, 400, 500, 600, 700, 800, 900, 1000, 1100};
        private static final int[] JUST =
                {0, 112, 204, 316, 386, 498, 590, 702, 814, 884, 1018, 1088};
        private static final int[] FIFTHS =
                {0, 90, 204, 294, 408, 498, 612, 702, 792, 906, 996, 1110};

        private final int[] cents = new int[STEPS];
        private char chosen;

        Tuning() {
            chosen = 'e';
            System.arraycopy(EQUAL, 0, cents, 0, STEPS);
        }

        static boolean isKnown(char name) {
            return name == 'e' || name == 'j' || name == 'p';
        }

        void choose(char name) {
            chosen = name;
            int[] table = name == 'j' ? JUST : name == 'p' ? FIFTHS : EQUAL;
            System.arraycopy(table, 0, cents, 0, STEPS);
        }

        int pitchOfStep(int step) {
            if (step < 0) {
                return 0;
            }
            return OCTAVE * (step / STEPS) + cents[step % STEPS];
        }
    }

    /** The best path of a tune along a song. */
    private static final class Path {
        static final int GOOD = 20;
        static final int LEAP = 5;
        static final int LEAP_SHORT = 30;
        private static final int NONE = -1;
        private static final int HIGHEST_KEY = 8;
        private static final int KEYS = 2 * HIGHEST_KEY + 1;
        private static final int KEY_CENTS = 25;
        private static final int KEY_COST = 3;
        private static final int MISS_COST = 30;
        private static final int LOST_KEYS = 3;
        private static final int WIDTH = Song.NOTES + 1;

        private final int[] sung = new int[Melody.NOTES];
        private final int[] asked = new int[Song.NOTES];
        private final int[] places = new int[Melody.NOTES];
        private final int[] keys = new int[Melody.NOTES];
        private final int[] costs = new int[(Melody.NOTES + 1) * WIDTH * KEYS];
        private final int[] laidCosts = new int[KEYS];
        private int sungCount;
        private int askedCount;

        void lay(Melody melody, Song song, Tuning tuning, int moved) {
            sungCount = melody.count;
            askedCount = song.size;
            for (int note = 0; note < sungCount; note++) {
                sung[note] = melody.pitches[note] + moved;
            }
            for (int place = 0; place < askedCount; place++) {
                asked[place] = tuning.pitchOfStep(song.steps[place]);
            }
            fillCosts();
            choosePath();
        }

        int total() {
            return costs[cell(0, 0, 0)];
        }

        boolean isLaid(int note) {
            return note >= 0 && note < sungCount && places[note] >= 0;
        }

        int laidAhead(int note) {
            for (int at = Math.min(note, sungCount) - 1; at >= 0; at--) {
                if (places[at] >= 0) {
                    return at;
                }
            }
            return NONE;
        }

        int offBy(int note) {
            return isLaid(note) ? offWith(note, places[note], keys[note]) : 0;
        }

        int leapSung(int ahead, int note) {
            return isLaid(ahead) && isLaid(note) ? Math.abs(sung[note] - sung[ahead]) : 0;
        }

        int leapAsked(int ahead, int note) {
            return isLaid(ahead) && isLaid(note)
                    ? Math.abs(asked[places[note]] - asked[places[ahead]]) : 0;
        }

        int keyDrift() {
            int last = laidAhead(sungCount);
            int first = laidBehind(NONE);
            return first < 0 || last < 0 ? 0 : keys[last] - keys[first];
        }

        int lostKeys() {
            int lost = 0;
            for (int note = 0; note < sungCount; note++) {
                int ahead = laidAhead(note);
                if (isLaid(note) && ahead >= 0
                        && Math.abs(keys[note] - keys[ahead]) >= LOST_KEYS) {
                    lost++;
                }
            }
            return lost;
        }

        boolean isLeastAround() {
            for (int note = 0; note < sungCount; note++) {
                if (!isLeastAt(note)) {
                    return false;
                }
            }
            return true;
        }

        private int laidBehind(int note) {
            for (int at = note + 1; at < sungCount; at++) {
                if (places[at] >= 0) {
                    return at;
                }
            }
            return NONE;
        }

        private static int rowAt(int note, int place) {
            return (note * WIDTH + place) * KEYS;
        }

        private static int cell(int note, int place, int key) {
            return rowAt(note, place) + key + HIGHEST_KEY;
        }

        private int offWith(int note, int place, int key) {
            return sung[note] - asked[place] - (sung[0] - asked[0] + KEY_CENTS * key);
        }

        private int costOn(int note, int place, int key) {
            return Math.abs(offWith(note, place, key)) / 10;
        }

        private static int costOfTurn(int key, int other) {
            return KEY_COST * Math.abs(key - other);
        }

        /** Each cell holds what the notes from one on cost, by the first free place and last key. */
        private void fillCosts() {
            for (int place = 0; place <= askedCount; place++) {
                fillAlike(sungCount, place, MISS_COST * (askedCount - place));
            }
            for (int note = sungCount - 1; note >= 0; note--) {
                fillAlike(note, askedCount, MISS_COST * (sungCount - note));
                for (int place = askedCount - 1; place >= 0; place--) {
                    fillLaidCosts(note, place);
                    fillCells(note, place);
                }
            }
        }

        private void fillAlike(int note, int place, int cost) {
            int here = rowAt(note, place);
            for (int at = 0; at < KEYS; at++) {
                costs[here + at] = cost;
            }
        }

        // Turning the key by one more costs the same each time, so that looking at the keys
        // beside each other, up and then down, finds the best of all of them.
        private void fillLaidCosts(int note, int place) {
            int behind = rowAt(note + 1, place + 1);
            int off = offWith(note, place, -HIGHEST_KEY);
            for (int at = 0; at < KEYS; at++) {
                int laid = Math.abs(off - KEY_CENTS * at) / 10 + costs[behind + at];
                laidCosts[at] = at > 0 ? Math.min(laid, laidCosts[at - 1] + KEY_COST) : laid;
            }
            for (int at = KEYS - 2; at >= 0; at--) {
                laidCosts[at] = Math.min(laidCosts[at], laidCosts[at + 1] + KEY_COST);
            }
        }

        private void fillCells(int note, int place) {
            int here = rowAt(note, place);
            int noteMissed = rowAt(note + 1, place);
            int placeMissed = rowAt(note, place + 1);
            for (int at = 0; at < KEYS; at++) {
                int missed = Math.min(costs[noteMissed + at], costs[placeMissed + at]);
                costs[here + at] = Math.min(MISS_COST + missed, laidCosts[at]);
            }
        }

        // Of ways that cost the same the first one found is kept: none before a place, an earlier
        // place before a later one, a lower key before a higher one.
        private void choosePath() {
            int place = 0;
            int key = 0;
            for (int note = 0; note < sungCount; note++) {
                places[note] = NONE;
                keys[note] = 0;
                int cost = costs[cell(note, place, key)];
                if (MISS_COST + costs[cell(note + 1, place, key)] != cost) {
                    chooseLaid(note, place, key);
                }
                if (places[note] >= 0) {
                    place = places[note] + 1;
                    key = keys[note];
                }
            }
        }

        private void chooseLaid(int note, int free, int lastKey) {
            int cost = costs[cell(note, free, lastKey)];
            for (int place = free; place < askedCount; place++) {
                int missed = MISS_COST * (place - free);
                for (int key = -HIGHEST_KEY; key <= HIGHEST_KEY; key++) {
                    int laid = costOn(note, place, key) + costOfTurn(key, lastKey)
                            + costs[cell(note + 1, place + 1, key)];
                    if (missed + laid == cost) {
                        places[note] = place;
                        keys[note] = key;
                        return;
                    }
                }
            }
        }

        private boolean isLeastAt(int note) {
            int ahead = laidAhead(note);
            int behind = laidBehind(note);
            int from = ahead < 0 ? 0 : places[ahead] + 1;
            int to = behind < 0 ? askedCount : places[behind];
            int least = costAround(note, places[note], keys[note], ahead, behind);
            if (costAround(note, NONE, 0, ahead, behind) < least) {
                return false;
            }
            for (int place = from; place < to; place++) {
                for (int key = -HIGHEST_KEY; key <= HIGHEST_KEY; key++) {
                    if (costAround(note, place, key, ahead, behind) < least) {
                        return false;
                    }
                }
            }
            return true;
        }

        // A note laid on none is missed itself, and leaves one more note of the song missed.
        private int costAround(int note, int place, int key, int ahead, int behind) {
            int keyAhead = ahead < 0 ? 0 : keys[ahead];
            int lastKey = place < 0 ? keyAhead : key;
            int cost = place < 0 ? 2 * MISS_COST
                    : costOn(note, place, key) + costOfTurn(key, keyAhead);
            return behind < 0 ? cost : cost + costOfTurn(keys[behind], lastKey);
        }
    }

    /** The range of a voice, and how tired it is. */
    private static final class Voice {
        private static final int MOST_TIRED = 300;
        private static final int LOUDNESS_SHARE = 20;
        private static final int DAY = 60;

        private int low = 4800;
        private int high = 7200;
        private int tiredness;

        void tire(int loudness) {
            tiredness = Math.min(MOST_TIRED, tiredness + loudness / LOUDNESS_SHARE);
        }

        void recover(int days) {
            tiredness = Math.max(0, tiredness - DAY * days);
        }
    }

    /** How well each interval is mastered. */
    private static final class Lessons {
        static final int WIDEST = 12;
        private static final int FIRST = 20;
        private static final int HIGHEST = 99;
        private static final int GAIN = 5;
        private static final int LOSS = 3;
        private static final int LEARNT = 70;
        private static final int STANDS = 40;

        private final int[] masteries = new int[WIDEST + 1];

        Lessons() {
            for (int interval = 0; interval <= WIDEST; interval++) {
                masteries[interval] = FIRST;
            }
        }

        boolean practise(int interval, char kind) {
            if (interval < 0 || interval > WIDEST) {
                return false;
            }
            int before = masteries[interval];
            int after = before;
            if (kind == 'o') {
                after = Math.min(HIGHEST, before + GAIN);
            } else if (kind == 'l' || kind == 's' || kind == 'f') {
                after = Math.max(0, before - LOSS);
            }
            masteries[interval] = after;
            return after != before;
        }

        int learnable() {
            for (int interval = 0; interval <= WIDEST; interval++) {
                if (masteries[interval] < LEARNT
                        && (interval == 0 || masteries[interval - 1] >= STANDS)) {
                    return interval;
                }
            }
            return -1;
        }

        boolean areInRange() {
            for (int interval = 0; interval <= WIDEST; interval++) {
                if (masteries[interval] < 0 || masteries[interval] > HIGHEST) {
                    return false;
                }
            }
            return true;
        }
    }

    /** Singers in a row. */
    private static final class Choir {
        static final int SEATS = 8;
        static final int MOST_OFF = 99;
        static final int MOST_PULL = 10;
        private static final int PULL_SHARE = 20;
        private static final int LOWEST = -999;

        private final int[] offs = new int[SEATS];
        private final int[] pulls = new int[SEATS];
        private final int[] moves = new int[SEATS];
        private int count;

        void put(int off, int pull) {
            if (count < SEATS) {
                offs[count] = off;
                pulls[count] = pull;
                count++;
            }
        }

        void singStep() {
            for (int seat = 0; seat < count; seat++) {
                moves[seat] = pulls[seat] * pullAt(seat) / PULL_SHARE;
            }
            for (int seat = 0; seat < count; seat++) {
                offs[seat] = Math.max(LOWEST, offs[seat] + moves[seat] - 1);
            }
        }

        int meanOff() {
            int sum = 0;
            for (int seat = 0; seat < count; seat++) {
                sum += offs[seat];
            }
            return count < 1 ? 0 : Math.floorDiv(sum, count);
        }

        void exchange(int seat, int other) {
            int off = offs[seat];
            int pull = pulls[seat];
            offs[seat] = offs[other];
            pulls[seat] = pulls[other];
            offs[other] = off;
            pulls[other] = pull;
        }

        int unlikeness() {
            int sum = 0;
            for (int seat = 1; seat < count; seat++) {
                sum += Math.abs(offs[seat] - offs[seat - 1]);
            }
            return sum;
        }

        private int pullAt(int seat) {
            int sum = 0;
            int beside = 0;
            if (seat > 0) {
                sum += offs[seat - 1];
                beside++;
            }
            if (seat + 1 < count) {
                sum += offs[seat + 1];
                beside++;
            }
            return beside < 1 ? 0 : Math.floorDiv(sum, beside) - offs[seat];
        }
    }

    /** The least changes between the leaps of two songs. */
    private static final class Variants {
        private final int[] row = new int[Song.NOTES];

        int changes(Song one, Song other) {
            int width = other.leaps();
            for (int at = 0; at <= width; at++) {
                row[at] = at;
            }
            for (int taken = 1; taken <= one.leaps(); taken++) {
                nextRow(one.leapAt(taken - 1), other, taken);
            }
            return row[width];
        }

        private void nextRow(int leap, Song other, int taken) {
            int slant = row[0];
            row[0] = taken;
            for (int at = 1; at <= other.leaps(); at++) {
                int above = row[at];
                int made = leap == other.leapAt(at - 1) ? slant : slant + 1;
                row[at] = Math.min(made, Math.min(above, row[at - 1]) + 1);
                slant = above;
            }
        }
    }
}
