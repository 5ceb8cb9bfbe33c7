import java.util.NoSuchElementException;

/** Rooms that several tests begin with, and the names of what they may throw. */
class Rooms {
    static final Class<IllegalArgumentException> ARGUMENT = IllegalArgumentException.class;
    static final Class<IllegalStateException> STATE = IllegalStateException.class;
    static final Class<IndexOutOfBoundsException> INDEX = IndexOutOfBoundsException.class;
    static final Class<UnsupportedOperationException> UNSUPPORTED =
            UnsupportedOperationException.class;
    static final Class<NoSuchElementException> MISSING = NoSuchElementException.class;

    static Tuneward empty() {
        return new Tuneward();
    }

    static Tuneward hearing(int... values) {
        Tuneward room = new Tuneward();
        for (int value : values) {
            room.sample(value);
        }
        return room;
    }

    /** A room with one song of these steps, each of one beat. */
    static Tuneward withSong(int... steps) {
        Tuneward room = new Tuneward();
        addSong(room, steps);
        return room;
    }

    static Tuneward addSong(Tuneward room, int... steps) {
        int song = room.song();
        for (int step : steps) {
            room.add(song, step, 1);
        }
        return room;
    }

    /** Sings notes of these pitches, of three frames each, with silence behind each. */
    static Tuneward sing(Tuneward room, int... pitches) {
        for (int pitch : pitches) {
            tone(room, pitch, 3, 90);
        }
        return room;
    }

    static Tuneward tone(Tuneward room, int pitch, int frames, int certainty) {
        for (int i = 0; i < frames; i++) {
            room.frame(pitch, 20, certainty);
        }
        room.frame(pitch, 0, 0);
        return room;
    }

    /** Sings frames that just sound. */
    static Tuneward raw(Tuneward room, int... pitches) {
        for (int pitch : pitches) {
            room.frame(pitch, 10, 50);
        }
        return room;
    }

    static Tuneward seated(int... offsAndPulls) {
        Tuneward room = new Tuneward();
        for (int i = 0; i + 1 < offsAndPulls.length; i += 2) {
            room.seat(offsAndPulls[i], offsAndPulls[i + 1]);
        }
        return room;
    }

    static Tuneward withSongs(int many) {
        Tuneward room = new Tuneward();
        for (int i = 0; i < many; i++) {
            room.song();
        }
        return room;
    }

    static Tuneward withFrames(int many) {
        Tuneward room = new Tuneward();
        for (int i = 0; i < many; i++) {
            room.frame(i, 0, 0);
        }
        return room;
    }

    static Tuneward withSingers(int many) {
        Tuneward room = new Tuneward();
        for (int i = 0; i < many; i++) {
            room.seat(20 * i - 70, i);
        }
        return room;
    }

    /** Some of everything: the second of three notes is laid on none, the third is too high. */
    static Tuneward rich() {
        Tuneward room = hearing(0, 50, 90, 0, 50);
        room.tune('j');
        room.tuneStep(4, 410);
        room.song();
        room.add(0, 0, 1);
        room.add(0, 2, 2);
        room.add(0, 4, 3);
        addSong(room);
        addSong(room, 7);
        sing(room, 6000, 9000, 6425);
        room.frame(9, 9, 9);
        room.learn(0);
        room.range(5990, 6424);
        room.seat(5, 5);
        room.seat(-50, 10);
        room.seat(7, 0);
        return room;
    }

    /** As many of everything as can be, in 261 calls; of seventeen tones sixteen are notes. */
    static Tuneward full() {
        Tuneward room = new Tuneward();
        for (int i = 0; i < 48; i++) {
            room.sample(i * i % 97 - 48);
        }
        for (int i = 0; i < 120; i++) {
            room.frame(5500 + i / 7 * 100, 50, 90);
        }
        for (int song = 0; song < 5; song++) {
            room.song();
            for (int i = 0; i < 16; i++) {
                room.add(song, i * (song + 1) % 25, 1 + i);
            }
        }
        for (int i = 0; i < 8; i++) {
            room.seat(20 * i - 70, i);
        }
        return room;
    }

    /** All intervals were sung so often that none is left to learn. */
    static Tuneward mastered() {
        int[][] tunes = {{0, 0, 1, 3, 6, 10, 15}, {0, 6, 13, 21}, {0, 9, 19}, {0, 11}, {0, 12}};
        Tuneward room = new Tuneward();
        for (int song = 0; song < tunes.length; song++) {
            addSong(room, tunes[song]);
            room.hush();
            for (int step : tunes[song]) {
                sing(room, 4800 + 100 * step);
            }
            practise(room, song, 10);
        }
        return room;
    }

    /** Learns by a song so often, each time as if it had been sung anew. */
    static Tuneward practise(Tuneward room, int song, int times) {
        for (int i = 0; i < times; i++) {
            room.move(0);
            room.learn(song);
        }
        return room;
    }
}
