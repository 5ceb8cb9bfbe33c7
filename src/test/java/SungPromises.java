/** Promises 1 to 11: a new object, samples, frames and notes. */
final class SungPromises extends Rooms {
    private final Sentences told;

    SungPromises(Sentences told) {
        this.told = told;
    }

    void go() {
        newObject();
        sample();
        period();
        frame();
        hush();
        move();
        moveBeyond();
        notes();
        starts();
        lengths();
        pitches();
        certainties();
    }

    private void newObject() {
        told.at(1, "Creates a room");
        told.same("no frames", empty().hush(), 0);
        told.same("no notes", empty().notes(), 0);
        told.refused("no songs", INDEX, Rooms::empty, one -> one.sizeOf(0), one -> one.cost(0),
                one -> one.parent(0), one -> one.share(0), one -> one.learn(0));
        told.refused("no singers", INDEX, Rooms::empty, one -> one.offOf(0),
                one -> one.swap(0, 0));
        told.same("the first sample", empty().sample(0), 1);
        told.same("the first frame", empty().frame(0, 0, 0), 1);
        told.same("the first song", empty().song(), 0);
        told.same("the first singer", empty().seat(0, 0), 0);
        told.same("the tuning", empty().tune('j'), 'e');
        told.same("the first step", empty().tuneStep(0, 1), 0);
        told.same("the last step", empty().tuneStep(11, 1), 1100);
        told.same("the range", empty().range(0, 0), 4800);
        told.same("not tired", empty().tired(), 0);
        told.same("the next interval", empty().next(), 0);
        told.same("no blend", empty().blend(), 0);
        told.same("it holds", empty().isTrue(), true);
        told.same("rest", empty().rest(99), 0);
        told.same("a move of none", empty().move(2400), 0);
        Tuneward other = empty();
        full();
        told.same("two rooms are apart", other.hush(), 0);
    }

    private void sample() {
        told.at(2, "Puts a sample");
        Tuneward room = hearing(0, 50, 90);
        room.sample(0);
        room.sample(50);
        room.sample(90);
        told.same("it is put", room.period(), 3);
        told.at(2, "`value`");
        told.within(-99, 99, ARGUMENT, Rooms::empty, Tuneward::sample);
        told.same("-99 as it is", hearing(-99, 99, 99, -99, 99, 99).period(), 3);
        told.at(2, "Returns how many there are");
        told.same("one", empty().sample(7), 1);
        told.same("48", hearing(new int[47]).sample(7), 48);
        told.at(2, "Throws `IllegalArgumentException`");
        told.refused("out of range", ARGUMENT, () -> hearing(4, 4), one -> one.sample(-100),
                one -> one.sample(100));
        told.refused("ahead of 48", ARGUMENT, Rooms::full, one -> one.sample(100));
        told.at(2, "Throws `IllegalStateException`");
        told.refused("48", STATE, () -> hearing(new int[48]), one -> one.sample(0),
                one -> one.sample(99), one -> one.sample(-99));
        Tuneward again = hearing(new int[48]);
        again.period();
        told.same("none behind a period", again.sample(0), 1);
    }

    private void period() {
        told.at(3, "Finds the period");
        Tuneward room = hearing(0, 50, 90, 0, 50, 90);
        told.same("found", room.period(), 3);
        told.same("gone then", room.sample(5), 1);
        Tuneward again = hearing(new int[48]);
        again.period();
        for (int value : new int[] {0, 50, 90, 0, 50, 90}) {
            again.sample(value);
        }
        told.same("found anew, without those gone", again.period(), 3);
        told.at(3, "Returns the lag");
        told.same("the least", hearing(1, 2, 3, 4).period(), 2);
        told.at(3, "Throws `NoSuchElementException`");
        told.refused("none", MISSING, Rooms::empty, Tuneward::period);
        told.refused("one", MISSING, () -> hearing(1), Tuneward::period);
        told.refused("three", MISSING, () -> hearing(1, 2, 3), Tuneward::period);
        told.same("four", hearing(1, 2, 3, 4).period(), 2);
        Tuneward three = hearing(1, 2, 3);
        told.same("three are kept", Checks.outcome(() -> three.period()), "NoSuchElementException");
        told.same("a fourth behind them", three.sample(4), 4);
    }

    private void frame() {
        told.at(4, "Sings a frame");
        Tuneward room = raw(empty(), 6000, 6001, 6002);
        told.same("sung", room.pitchOf(0), 6001);
        told.at(4, "`pitch`");
        told.within(0, 9999, ARGUMENT, Rooms::empty, (one, pitch) -> one.frame(pitch, 50, 90));
        told.at(4, "`loudness`");
        told.within(0, 99, ARGUMENT, Rooms::empty, (one, loud) -> one.frame(6000, loud, 90));
        told.at(4, "`certainty`");
        told.within(0, 99, ARGUMENT, Rooms::empty, (one, sure) -> one.frame(6000, 50, sure));
        told.at(4, "Returns how many there are");
        told.same("one", empty().frame(0, 0, 0), 1);
        told.same("120", withFrames(119).frame(9999, 99, 99), 120);
        told.same("those that don't sound too", withFrames(5).frame(0, 0, 0), 6);
        told.at(4, "Throws `IllegalArgumentException`");
        told.refused("out of range", ARGUMENT, Rooms::rich, one -> one.frame(-1, 50, 90),
                one -> one.frame(10000, 50, 90), one -> one.frame(6000, -1, 90),
                one -> one.frame(6000, 100, 90), one -> one.frame(6000, 50, -1),
                one -> one.frame(6000, 50, 100));
        told.refused("ahead of 120", ARGUMENT, Rooms::full, one -> one.frame(6000, 50, 100));
        told.at(4, "Throws `IllegalStateException`");
        told.refused("120", STATE, Rooms::full, one -> one.frame(6000, 99, 99),
                one -> one.frame(0, 0, 0));
        Tuneward again = withFrames(120);
        again.hush();
        told.same("none behind a hush", again.frame(0, 0, 0), 1);
        Tuneward tired = withFrames(120);
        Checks.outcome(() -> tired.frame(0, 99, 99));
        told.same("one that is refused doesn't tire", tired.tired(), 0);
    }

    private void hush() {
        told.at(5, "Takes all frames away");
        Tuneward room = rich();
        room.hush();
        told.same("no frames", room.frame(0, 0, 0), 1);
        told.same("no notes", room.notes(), 0);
        told.same("tired all the same", room.tired(), 9);
        told.same("songs stay", room.sizeOf(0), 3);
        told.at(5, "Returns how many there were");
        told.same("none", empty().hush(), 0);
        told.same("some", rich().hush(), 13);
        told.same("120", full().hush(), 120);
        Tuneward twice = full();
        twice.hush();
        told.same("none then", twice.hush(), 0);
    }

    private void move() {
        told.at(6, "Moves all frames");
        Tuneward room = rich();
        room.move(-9);
        told.same("the first note", room.pitchOf(0), 5991);
        told.same("the last note", room.pitchOf(2), 6416);
        told.same("those that don't sound, back by as much", room.move(999), 13);
        told.same("the second note", room.pitchOf(1), 9990);
        told.at(6, "`cents`");
        told.within(-2400, 2400, ARGUMENT, () -> raw(empty(), 5000, 5000, 5000), Tuneward::move);
        told.same("2400 up", moved(5000, 2400).pitchOf(0), 7400);
        told.same("2400 down", moved(5000, -2400).pitchOf(0), 2600);
        told.same("by none", moved(5000, 0).pitchOf(0), 5000);
        told.at(6, "Returns how many there are");
        told.same("none", empty().move(-2400), 0);
        told.same("some", rich().move(5), 13);
        told.same("120", full().move(5), 120);
    }

    private static Tuneward moved(int pitch, int cents) {
        Tuneward room = raw(empty(), pitch, pitch, pitch);
        room.move(cents);
        return room;
    }

    private void moveBeyond() {
        told.at(6, "Throws `IllegalArgumentException`");
        told.refused("out of range", ARGUMENT, Rooms::rich, one -> one.move(2401),
                one -> one.move(-2401));
        told.refused("of no frames", ARGUMENT, Rooms::empty, one -> one.move(2401));
        told.refused("ahead of a pitch", ARGUMENT, () -> raw(empty(), 0), one -> one.move(-2401));
        told.at(6, "Throws `UnsupportedOperationException`");
        told.same("to 9999", moved(9998, 1).pitchOf(0), 9999);
        told.same("to 0", moved(1, -1).pitchOf(0), 0);
        told.same("from 9999 by none", moved(9999, 0).pitchOf(0), 9999);
        told.same("from 7599", moved(7599, 2400).pitchOf(0), 9999);
        told.same("from 2400", moved(2400, -2400).pitchOf(0), 0);
        told.refused("to 10000", UNSUPPORTED, () -> raw(empty(), 9, 9999), one -> one.move(1));
        told.refused("to -1", UNSUPPORTED, () -> raw(empty(), 9999, 0), one -> one.move(-1));
        told.refused("the first of three", UNSUPPORTED, () -> raw(empty(), 9999, 9, 9),
                one -> one.move(1));
        told.refused("one that doesn't sound", UNSUPPORTED, Rooms::rich, one -> one.move(-10));
        told.refused("the last of 120", UNSUPPORTED, SungPromises::lastHigh, one -> one.move(1));
    }

    private static Tuneward lastHigh() {
        Tuneward room = withFrames(119);
        room.frame(9999, 0, 0);
        return room;
    }

    private void notes() {
        told.at(7, "Returns how many notes");
        told.same("none sung", empty().notes(), 0);
        told.same("none that sound", withFrames(120).notes(), 0);
        told.same("only slides", raw(empty(), 1, 1, 100, 100, 200, 200).notes(), 0);
        told.same("one", raw(empty(), 1, 1, 1).notes(), 1);
        told.same("one of all frames", sounding(120).notes(), 1);
        told.at(7, "Returns how many, 16 at most");
        told.same("15", tones(15).notes(), 15);
        told.same("16", tones(16).notes(), 16);
        told.same("17", tones(17).notes(), 16);
        told.same("40 tones of three", tones(40).notes(), 16);
    }

    private static Tuneward sounding(int frames) {
        Tuneward room = empty();
        for (int i = 0; i < frames; i++) {
            room.frame(6000, 50, 90);
        }
        return room;
    }

    private static Tuneward tones(int many) {
        Tuneward room = empty();
        for (int i = 0; i < many; i++) {
            raw(room, 100 * i, 100 * i, 100 * i);
        }
        return room;
    }

    private void starts() {
        told.at(8, "Returns where a note begins");
        told.same("behind a slide", raw(empty(), 1, 1, 100, 100, 100).startOf(0), 2);
        told.at(8, "`note`");
        told.within(0, 2, INDEX, Rooms::rich, Tuneward::startOf);
        told.at(8, "Returns the frame");
        told.same("the first", rich().startOf(0), 0);
        told.same("the last", rich().startOf(2), 8);
        told.same("the last there can be", lastTone().startOf(0), 117);
        told.at(8, "Throws");
        told.refused("none", INDEX, Rooms::empty, one -> one.startOf(0));
        told.refused("sixteen", INDEX, Rooms::full, one -> one.startOf(16));
        told.same("the sixteenth", full().startOf(15), 105);
    }

    private static Tuneward lastTone() {
        return raw(withFrames(117), 5, 5, 5);
    }

    private void lengths() {
        told.at(9, "Returns how long");
        told.same("one of four", raw(empty(), 5, 5, 5, 5).lengthOf(0), 4);
        told.at(9, "`note`");
        told.within(0, 2, INDEX, Rooms::rich, Tuneward::lengthOf);
        told.at(9, "Returns its frames");
        told.same("three", lastTone().lengthOf(0), 3);
        told.same("all", sounding(120).lengthOf(0), 120);
        told.at(9, "Throws");
        told.refused("none", INDEX, Rooms::empty, one -> one.lengthOf(0));
        told.refused("only slides", INDEX, () -> raw(empty(), 5, 5), one -> one.lengthOf(0));
        told.refused("sixteen", INDEX, Rooms::full, one -> one.lengthOf(16));
        told.same("the sixteenth", full().lengthOf(15), 7);
    }

    private void pitches() {
        told.at(10, "Returns the pitch of a note");
        told.same("the second", rich().pitchOf(1), 9000);
        told.at(10, "`note`");
        told.within(0, 2, INDEX, Rooms::rich, Tuneward::pitchOf);
        told.at(10, "Returns the pitch.");
        told.same("the lowest", raw(empty(), 0, 0, 0).pitchOf(0), 0);
        told.same("the highest", raw(empty(), 9999, 9999, 9999).pitchOf(0), 9999);
        told.at(10, "Throws");
        told.refused("none", INDEX, Rooms::empty, one -> one.pitchOf(0));
        told.refused("sixteen", INDEX, Rooms::full, one -> one.pitchOf(16));
        told.same("the sixteenth", full().pitchOf(15), 7000);
    }

    private void certainties() {
        told.at(11, "Returns the certainty of a note");
        told.same("the second", rich().certaintyOf(1), 90);
        told.at(11, "`note`");
        told.within(0, 2, INDEX, Rooms::rich, Tuneward::certaintyOf);
        told.at(11, "Returns the certainty.");
        told.same("the lowest", raw(empty(), 5, 5, 5).certaintyOf(0), 50);
        told.same("the highest", tone(empty(), 5, 119, 99).certaintyOf(0), 99);
        told.at(11, "Throws");
        told.refused("none", INDEX, Rooms::empty, one -> one.certaintyOf(0));
        told.refused("sixteen", INDEX, Rooms::full, one -> one.certaintyOf(16));
        told.same("the sixteenth", full().certaintyOf(15), 90);
    }
}
