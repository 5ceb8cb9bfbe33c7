/** Promises 12 to 26: songs, tunings, paths, errors and leaning. */
final class SongPromises extends Rooms {
    private static final int[] SCALE = {0, 2, 4, 5, 7};

    private final Sentences told;

    SongPromises(Sentences told) {
        this.told = told;
    }

    void go() {
        song();
        add();
        sizeOf();
        tune();
        tuneStep();
        centsOf();
        cost();
        laidOn();
        keyOf();
        off();
        kindOf();
        drift();
        lost();
        sung();
        lean();
    }

    /** A room with notes sung, and a song without any. */
    private static Tuneward songless() {
        return addSong(sing(empty(), 6000, 6200));
    }

    /** A room with a song, and without notes sung but one slide. */
    private static Tuneward unsung() {
        return raw(withSong(0, 2), 6000, 6000);
    }

    private void song() {
        told.at(12, "Begins a song");
        told.same("without notes", withSongs(1).sizeOf(0), 0);
        told.at(12, "Returns its number");
        for (int many = 0; many < 5; many++) {
            told.same("behind " + many, withSongs(many).song(), many);
        }
        told.at(12, "Throws");
        told.refused("five", STATE, () -> withSongs(5), Tuneward::song);
        told.refused("five that are full", STATE, Rooms::full, Tuneward::song);
        told.same("the fifth is there", withSongs(5).sizeOf(4), 0);
    }

    private void add() {
        told.at(13, "Adds a note");
        Tuneward room = sing(withSongs(2), 6000, 6200);
        room.add(1, 0, 1);
        room.add(1, 2, 1);
        told.same("to this song", room.sizeOf(1), 2);
        told.same("to no other", room.sizeOf(0), 0);
        told.same("behind the others", room.laidOn(1, 1), 1);
        told.at(13, "`song`");
        told.within(0, 2, INDEX, Rooms::rich, (one, song) -> one.add(song, 0, 1));
        told.at(13, "`step`");
        told.within(0, 24, ARGUMENT, Rooms::rich, (one, step) -> one.add(0, step, 1));
        told.at(13, "`beats`");
        told.within(1, 16, ARGUMENT, Rooms::rich, (one, beats) -> one.add(0, 0, beats));
        told.at(13, "Returns how many it has");
        Tuneward full = withSongs(5);
        for (int i = 1; i <= 16; i++) {
            told.same("how many", full.add(4, 24, 16), i);
        }
        told.at(13, "Throws `IndexOutOfBoundsException`");
        told.refused("no song", INDEX, Rooms::empty, one -> one.add(0, 0, 1));
        told.refused("five", INDEX, Rooms::full, one -> one.add(5, 0, 1), one -> one.add(-1, 0, 1));
        told.refused("ahead of numbers", INDEX, Rooms::rich, one -> one.add(3, -1, 17));
        told.at(13, "Throws `IllegalArgumentException`");
        told.refused("out of range", ARGUMENT, Rooms::rich, one -> one.add(0, -1, 1),
                one -> one.add(0, 25, 1), one -> one.add(0, 0, 0), one -> one.add(0, 0, 17));
        told.refused("ahead of 16", ARGUMENT, Rooms::full, one -> one.add(0, -1, 1),
                one -> one.add(0, 25, 1), one -> one.add(0, 0, 0), one -> one.add(0, 0, 17));
        told.at(13, "Throws `IllegalStateException`");
        told.refused("16", STATE, Rooms::full, one -> one.add(0, 0, 1), one -> one.add(4, 24, 16));
        told.same("another one isn't full", full.add(3, 0, 1), 1);
    }

    private void sizeOf() {
        told.at(14, "Returns how many notes a song has");
        told.same("three", rich().sizeOf(0), 3);
        told.at(14, "`song`");
        told.within(0, 2, INDEX, Rooms::rich, Tuneward::sizeOf);
        told.at(14, "Returns how many.");
        told.same("none", rich().sizeOf(1), 0);
        told.same("one", rich().sizeOf(2), 1);
        told.same("16", full().sizeOf(4), 16);
        told.at(14, "Throws");
        told.refused("no song", INDEX, Rooms::empty, one -> one.sizeOf(0));
        told.refused("five", INDEX, Rooms::full, one -> one.sizeOf(5));
    }

    private void tune() {
        told.at(15, "Chooses a tuning");
        Tuneward room = empty();
        room.tune('j');
        told.same("just", room.centsOf(1), 112);
        room.tune('p');
        told.same("by fifths", room.centsOf(1), 90);
        room.tune('e');
        told.same("equal", room.centsOf(1), 100);
        told.at(15, "`tuning`");
        for (char tuning : new char[] {'e', 'j', 'p'}) {
            Tuneward one = empty();
            one.tune(tuning);
            told.same("chosen", one.tune(tuning), tuning);
        }
        told.at(15, "Returns the one chosen before");
        told.same("at first", empty().tune('p'), 'e');
        told.same("then", rich().tune('e'), 'j');
        told.at(15, "Throws");
        told.refused("no such", ARGUMENT, Rooms::rich, one -> one.tune('d'), one -> one.tune('f'),
                one -> one.tune('i'), one -> one.tune('k'), one -> one.tune('o'),
                one -> one.tune('q'), one -> one.tune('E'), one -> one.tune('J'),
                one -> one.tune('P'), one -> one.tune((char) 0), one -> one.tune('\uffff'),
                one -> one.tune((char) ('e' + 256)));
    }

    private void tuneStep() {
        told.at(16, "Tells one of the twelve otherwise");
        Tuneward room = rich();
        room.tuneStep(2, 202);
        told.same("told", room.centsOf(2), 202);
        told.same("the one below", room.centsOf(1), 112);
        told.same("the one above", room.centsOf(3), 316);
        told.at(16, "`step`");
        told.within(0, 11, ARGUMENT, Rooms::rich, (one, step) -> one.tuneStep(step, 5));
        told.at(16, "`cents`");
        told.within(0, 1199, ARGUMENT, Rooms::rich, (one, cents) -> one.tuneStep(4, cents));
        told.at(16, "Returns its cents before");
        told.same("by the tuning", rich().tuneStep(11, 0), 1088);
        told.same("told before", rich().tuneStep(4, 0), 410);
        told.same("at first", empty().tuneStep(0, 1199), 0);
        told.at(16, "Throws");
        told.refused("out of range", ARGUMENT, Rooms::rich, one -> one.tuneStep(-1, 5),
                one -> one.tuneStep(12, 5), one -> one.tuneStep(4, -1),
                one -> one.tuneStep(4, 1200));
    }

    private void centsOf() {
        told.at(17, "Returns the pitch of a step");
        told.same("one told", rich().centsOf(16), 1610);
        told.at(17, "`step`");
        told.within(0, 24, ARGUMENT, Rooms::rich, Tuneward::centsOf);
        told.at(17, "Returns the pitch.");
        int[][] pitches = {{0, 0}, {11, 1100}, {12, 1200}, {13, 1300}, {23, 2300}, {24, 2400}};
        for (int[] row : pitches) {
            told.same("step " + row[0], empty().centsOf(row[0]), row[1]);
        }
        Tuneward most = empty();
        most.tuneStep(0, 1199);
        told.same("the highest", most.centsOf(24), 3599);
        told.at(17, "Throws");
        told.refused("out of range", ARGUMENT, Rooms::rich, one -> one.centsOf(-1),
                one -> one.centsOf(25));
    }

    private void cost() {
        told.at(18, "Returns what the best path costs");
        told.same("some", rich().cost(0), 61);
        told.at(18, "`song`");
        told.same("the last one", rich().cost(2), 60);
        told.refused("no such", INDEX, Rooms::rich, one -> one.cost(3), one -> one.cost(-1),
                one -> one.cost(Integer.MIN_VALUE));
        told.at(18, "Returns the cost");
        told.same("one note on one", sing(withSong(24), 0).cost(0), 0);
        told.same("the most", sing(withSong(new int[16]), 0, 9999, 9999, 9999, 9999, 9999, 9999,
                9999, 9999, 9999, 9999, 9999, 9999, 9999, 9999, 9999).cost(0), 900);
        told.at(18, "Throws `IndexOutOfBoundsException`");
        told.refused("no song", INDEX, Rooms::empty, one -> one.cost(0));
        told.refused("no such", INDEX, Rooms::rich, one -> one.cost(3), one -> one.cost(-1));
        told.at(18, "Throws `UnsupportedOperationException`");
        refusedWhole((one, song) -> one.cost(song));
    }

    /** What a call refuses that needs both notes sung and notes of the song. */
    private void refusedWhole(Sentences.AskingWith call) {
        told.refused("no notes sung", UNSUPPORTED, SongPromises::unsung, one -> call.of(one, 0));
        told.refused("none in the song", UNSUPPORTED, SongPromises::songless,
                one -> call.of(one, 0));
        told.refused("neither", UNSUPPORTED, () -> withSongs(1), one -> call.of(one, 0));
        told.refused("none in the fifth", UNSUPPORTED, () -> sing(withSongs(5), 6000),
                one -> call.of(one, 4));
    }

    /** What a call by note refuses: no such song, no such note; and then an empty song. */
    private void refusedByNote(int promise, Asking call) {
        told.at(promise, "`song`");
        told.same("the last one", Checks.outcome(() -> call.of(rich(), 2, 0)),
                Checks.outcome(() -> call.of(sing(withSong(7), 6000, 9000, 6425), 0, 0)));
        told.refused("no such", INDEX, Rooms::rich, one -> call.of(one, -1, 0),
                one -> call.of(one, 3, 0), one -> call.of(one, Integer.MAX_VALUE, 0));
        told.at(promise, "`note`");
        told.holds("the first", isAnswer(Checks.outcome(() -> call.of(rich(), 0, 0))));
        told.holds("the last", isAnswer(Checks.outcome(() -> call.of(rich(), 0, 2))));
        told.holds("the sixteenth", isAnswer(Checks.outcome(() -> call.of(scale(), 0, 15))));
        told.refused("no such", INDEX, Rooms::rich, one -> call.of(one, 0, -1),
                one -> call.of(one, 0, 3), one -> call.of(one, 0, Integer.MIN_VALUE));
        told.at(promise, "Throws `IndexOutOfBoundsException`");
        told.refused("no song", INDEX, () -> sing(empty(), 6000), one -> call.of(one, 0, 0));
        told.refused("no note", INDEX, SongPromises::unsung, one -> call.of(one, 0, 0));
        told.refused("a seventeenth", INDEX, SongPromises::scale, one -> call.of(one, 0, 16));
        told.refused("no note, ahead of an empty song", INDEX, SongPromises::songless,
                one -> call.of(one, 0, 2), one -> call.of(one, 0, -1));
        told.refused("neither a note nor a song's", INDEX, () -> withSongs(1),
                one -> call.of(one, 0, 0));
        told.at(promise, "Throws `UnsupportedOperationException`");
        told.refused("an empty song", UNSUPPORTED, Rooms::rich, one -> call.of(one, 1, 0),
                one -> call.of(one, 1, 1), one -> call.of(one, 1, 2));
    }

    private interface Asking {
        Object of(Tuneward room, int song, int note);
    }

    private static boolean isAnswer(Object outcome) {
        return !String.valueOf(outcome).endsWith("Exception");
    }

    /** Seventeen tones, sung as the song's sixteen notes are and one behind them. */
    private static Tuneward scale() {
        Tuneward room = empty();
        room.song();
        for (int i = 0; i < 17; i++) {
            if (i < 16) {
                room.add(0, i, 1);
            }
            sing(room, 5000 + 100 * i);
        }
        return room;
    }

    private void laidOn() {
        told.at(19, "Returns on which note");
        told.same("the third", rich().laidOn(0, 2), 2);
        told.at(19, "Returns that note");
        told.same("the first", scale().laidOn(0, 0), 0);
        told.same("the last", scale().laidOn(0, 15), 15);
        told.same("none", rich().laidOn(0, 1), -1);
        told.same("a song of one note", rich().laidOn(2, 0), 0);
        refusedByNote(19, Tuneward::laidOn);
    }

    private void keyOf() {
        told.at(20, "Returns the key of a note");
        told.same("one up", sing(withSong(0, 2, 4), 6000, 6225, 6425).keyOf(0, 2), 1);
        told.at(20, "Returns the key.");
        told.same("none", rich().keyOf(0, 2), 0);
        told.same("the highest", sing(withSong(0, 0, 0, 0, 0), 6000, 6250, 6250, 6250, 6250)
                .keyOf(0, 1), 8);
        told.same("the lowest", sing(withSong(0, 0, 0, 0, 0), 6000, 5750, 5750, 5750, 5750)
                .keyOf(0, 1), -8);
        refusedByNote(20, Tuneward::keyOf);
        told.at(20, "Throws `NoSuchElementException`");
        told.refused("laid on none", MISSING, Rooms::rich, one -> one.keyOf(0, 1));
        told.same("an empty song ahead of it",
                Checks.outcome(() -> rich().keyOf(1, 1)), "UnsupportedOperationException");
    }

    private void off() {
        told.at(21, "Returns by how much a note is off");
        told.same("the third", rich().off(0, 2), 15);
        told.at(21, "Returns the cents");
        told.same("none", rich().off(0, 0), 0);
        told.same("below", sing(withSong(0, 2), 6000, 6171).off(0, 1), -29);
        told.same("above", sing(withSong(0, 2), 6000, 6230).off(0, 1), 30);
        refusedByNote(21, Tuneward::off);
        told.at(21, "Throws `NoSuchElementException`");
        told.refused("laid on none", MISSING, Rooms::rich, one -> one.off(0, 1));
    }

    private void kindOf() {
        told.at(22, "Returns the kind of a note");
        told.same("the third", rich().kindOf(0, 2), 'r');
        told.at(22, "Returns 'u'");
        told.same("laid on none", rich().kindOf(0, 1), 'n');
        told.same("as due", rich().kindOf(0, 0), 'o');
        told.same("unsure", tone(withSong(0), 6000, 3, 59).kindOf(0, 0), 'u');
        told.same("a leap", sing(withSong(0, 5), 6000, 6469).kindOf(0, 1), 'l');
        told.same("above", sing(withSong(0, 2), 6000, 6221).kindOf(0, 1), 's');
        told.same("below", sing(withSong(0, 2), 6000, 6179).kindOf(0, 1), 'f');
        refusedByNote(22, Tuneward::kindOf);
    }

    private void drift() {
        told.at(23, "Returns by how much the key drifts");
        told.same("up", sing(withSong(SCALE), 6000, 6225, 6425, 6550, 6750).drift(0), 2);
        told.same("down", sing(withSong(SCALE), 6000, 6125, 6325, 6425, 6625).drift(0), -3);
        told.same("less that of the first laid",
                sing(withSong(0, 2, 4, 5), 6100, 6000, 6200, 6400, 6500).drift(0), 0);
        // The first note sung is laid on none: the key drifts from that of the second.
        told.same("from the first laid on", sing(withSong(0, 2, 4, 5, 7, 9, 11),
                6100, 6000, 6200, 6400, 6500, 6700, 6925, 7125).drift(0), 1);
        told.at(23, "`song`");
        told.same("the last one", rich().drift(2), 0);
        told.refused("no such", INDEX, Rooms::rich, one -> one.drift(3), one -> one.drift(-1));
        told.at(23, "Returns the keys");
        told.same("0 for one laid", sing(withSong(0), 6000).drift(0), 0);
        told.same("0 for one laid of two", sing(withSong(0, 2), 6000, 9000).drift(0), 0);
        told.same("the most", sing(withSong(0, 0, 0, 0, 0), 6000, 6250, 6250, 6250, 6250).drift(0),
                8);
        told.at(23, "Throws `IndexOutOfBoundsException`");
        told.refused("no song", INDEX, () -> sing(empty(), 6000), one -> one.drift(0));
        told.at(23, "Throws `UnsupportedOperationException`");
        refusedWhole((one, song) -> one.drift(song));
    }

    private void lost() {
        told.at(24, "Returns how often a key is lost");
        told.same("once", sing(withSong(SCALE), 6000, 6275, 6475, 6575, 6775).lost(0), 1);
        told.at(24, "`song`");
        told.same("the last one", rich().lost(2), 0);
        told.refused("no such", INDEX, Rooms::rich, one -> one.lost(3), one -> one.lost(-1));
        told.at(24, "Returns how often.");
        told.same("never", scale().lost(0), 0);
        told.same("twice", sing(withSong(0, 2, 4, 5, 7, 9, 11, 12),
                6000, 6275, 6475, 6575, 6775, 6875, 7075, 7175).lost(0), 2);
        told.at(24, "Throws `IndexOutOfBoundsException`");
        told.refused("no song", INDEX, () -> sing(empty(), 6000), one -> one.lost(0));
        told.at(24, "Throws `UnsupportedOperationException`");
        refusedWhole((one, song) -> one.lost(song));
    }

    private void sung() {
        told.at(25, "Returns which song was sung");
        Tuneward room = addSong(addSong(withSong(0, 5), 0, 2), 7, 9);
        sing(room, 6000, 6200);
        told.same("of like ones the lowest", room.sung(), 1);
        told.same("past an empty one", sing(addSong(withSongs(1), 0, 2), 6000, 6200).sung(), 1);
        told.same("an empty one would cost less",
                sing(addSong(addSong(empty()), 0, 12, 0, 12, 0, 12), 6000).sung(), 1);
        told.at(25, "Returns the song");
        told.same("the first", sing(withSong(0), 6000).sung(), 0);
        told.same("the fifth", sing(addSong(withSongs(4), 0), 6000).sung(), 4);
        told.same("the first of five alike",
                sing(addSong(addSong(addSong(addSong(withSong(0), 1), 2), 3), 4), 6000).sung(), 0);
        told.at(25, "Throws");
        told.refused("nothing at all", MISSING, Rooms::empty, Tuneward::sung);
        told.refused("no notes", MISSING, SongPromises::unsung, Tuneward::sung);
        told.refused("no song", MISSING, () -> sing(empty(), 6000), Tuneward::sung);
        told.refused("none with notes", MISSING, SongPromises::songless, Tuneward::sung);
        told.refused("five without", MISSING, () -> sing(withSongs(5), 6000), Tuneward::sung);
    }

    private void lean() {
        told.at(26, "Returns by how much a note leans");
        told.same("the third", rich().lean(0, 2), 3 * 4 - 3 * 6);
        told.at(26, "Returns how much");
        told.same("the first", rich().lean(0, 0), 3 * 4 - 1 * 6);
        told.same("one alone", rich().lean(2, 0), 0);
        told.same("all alike", scale().lean(0, 15), 0);
        refusedByNote(26, Tuneward::lean);
        told.at(26, "Throws `NoSuchElementException`");
        told.refused("laid on none", MISSING, Rooms::rich, one -> one.lean(0, 1));
    }
}
