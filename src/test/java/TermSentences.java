/** The document's terms of samples, frames and songs, and how long an object is used. */
final class TermSentences extends Rooms {
    private final Sentences told;

    TermSentences(Sentences told) {
        this.told = told;
    }

    void go() {
        whatItIs();
        samples();
        distances();
        periods();
        frames();
        tones();
        notePitches();
        songs();
        tunings();
    }

    private void whatItIs() {
        told.at("What it is", "A child who sings");
        Tuneward room = rich();
        told.same("pitch found in samples", room.period(), 2);
        told.same("notes told from what is none", room.notes(), 3);
        told.same("a tune laid where it suits", room.laidOn(0, 2), 2);
        told.same("what is off", room.off(0, 2), 15);
        told.same("why", room.kindOf(0, 2), 'r');
        told.same("tiredness", room.tired(), 9);
        told.same("a lesson", room.mastery(4), 25);
        told.same("a choir that sinks", room.choir(1), -9);
        told.same("from mouth to mouth", room.parent(2), 1);
        told.at("What it is", "An object is used for at most 512 calls");
        Tuneward used = full();
        for (int call = 262; call < 512; call++) {
            used.cost(call % 5);
        }
        told.same("the 512th call", used.checksum(), full().checksum());
    }

    private void samples() {
        told.at("Samples", "At most 48");
        Tuneward room = empty();
        for (int i = 1; i <= 48; i++) {
            told.same("how many", room.sample(i % 2 == 0 ? 99 : -99), i);
        }
        told.refused("a 49th", STATE, () -> hearing(new int[48]), one -> one.sample(0));
        told.within(-99, 99, ARGUMENT, () -> hearing(1, 2), (one, value) -> one.sample(value));
        told.same("one behind the other", hearing(0, 50, 90, 0, 50, 90).period(), 3);
        told.same("otherwise put", hearing(0, 0, 50, 50, 90, 90).period(), 2);
    }

    private void distances() {
        told.at("Samples", "The distance of a lag");
        told.same("no lag of 1", hearing(0, 10, 20, 30).period(), 2);
        told.same("none of 1 in many", hearing(0, 1, 2, 3, 4, 5, 6, 7, 8, 9).period(), 2);
        told.same("six have a lag of 3", hearing(0, 50, 90, 0, 50, 90).period(), 3);
        told.same("five have none of 3", hearing(0, 50, 90, 0, 50).period(), 2);
        int[] wave = new int[48];
        int[] shorter = new int[47];
        for (int i = 0; i < 48; i++) {
            wave[i] = i % 24 == 23 ? 99 : i % 24 == 5 ? -99 : i % 24 * 3;
        }
        System.arraycopy(wave, 0, shorter, 0, 47);
        told.same("48 have a lag of 24", hearing(wave).period(), 24);
        told.holds("47 have none of 24", hearing(shorter).period() < 24);
        told.same("divided by how many there are", hearing(7, -3, -8, -7, 4, 4).period(), 2);
        told.same("cut where 533 and a third is enough",
                hearing(6, -9, -1, 0, -5, 5, -3, 0).period(), 2);
        told.same("cut where 885 and five sevenths is enough",
                hearing(1, 3, 5, -9, 8, -7, -7, 4, 8).period(), 2);
        told.same("the amounts", hearing(-99, 99, -99, 99, -99, 99).period(), 2);
    }

    private void periods() {
        told.at("Samples", "The period is the least lag");
        // 500 is 450 with its tenth and 5; 583 is one more than 525 with its tenth, cut, and 5.
        told.same("just enough", hearing(-2, 1, 1, 5, 2, -7, 7).period(), 2);
        told.same("beyond it by one", hearing(6, -8, 2, -6, 2, 8, 1, -6).period(), 4);
        told.same("the least of like ones", hearing(new int[48]).period(), 2);
    }

    private void frames() {
        told.at("Frames", "At most 120 are sung");
        Tuneward room = empty();
        for (int i = 1; i <= 120; i++) {
            told.same("how many", room.frame(i % 2 * 9999, i % 3 * 49, i % 4 * 33), i);
        }
        told.refused("a 121st", STATE, () -> withFrames(120), one -> one.frame(0, 50, 90));
        told.within(0, 9999, ARGUMENT, Rooms::rich, (one, pitch) -> one.frame(pitch, 50, 90));
        told.within(0, 99, ARGUMENT, Rooms::rich, (one, loud) -> one.frame(5000, loud, 90));
        told.within(0, 99, ARGUMENT, Rooms::rich, (one, sure) -> one.frame(5000, 50, sure));
        told.same("one behind the other", raw(empty(), 5000, 5000, 5000, 1, 2, 1).pitchOf(1), 1);
        told.at("Frames", "A frame sounds if");
        int[][] louds = {{10, 50, 1}, {9, 50, 0}, {10, 49, 0}, {9, 99, 0}, {99, 49, 0},
            {99, 99, 1}, {0, 0, 0}};
        for (int[] row : louds) {
            Tuneward one = empty();
            for (int i = 0; i < 3; i++) {
                one.frame(5000, row[0], row[1]);
            }
            told.same("as loud as " + row[0] + ", " + row[1] + " certain", one.notes(), row[2]);
        }
    }

    private void tones() {
        told.at("Frames", "A tone is as many frames");
        int[][] joined = {{5000, 5000, 5040}, {5000, 5040, 5000}, {5040, 5000, 5000},
            {5000, 5040, 5080}, {5080, 5040, 5000}, {0, 0, 40}, {9999, 9999, 9959}};
        int[][] parted = {{5000, 5000, 5041}, {5000, 5041, 5000}, {5041, 5000, 5000},
            {5000, 5041, 5041, 5000}, {5000, 5000, 5041, 5041}};
        for (int[] row : joined) {
            told.same("40 apart at most", raw(empty(), row).notes(), 1);
        }
        for (int[] row : parted) {
            told.same("41 apart", raw(empty(), row).notes(), 0);
        }
        Tuneward all = empty();
        for (int i = 0; i < 120; i++) {
            raw(all, 5000 + 40 * i);
        }
        told.same("one of all frames", all.notes(), 1);
        told.same("as many as can be", all.lengthOf(0), 120);
        Tuneward broken = raw(empty(), 5000, 5000, 5000);
        broken.frame(5000, 9, 99);
        raw(broken, 5000, 5000);
        broken.frame(5000, 99, 49);
        raw(broken, 5000);
        told.same("that all sound", broken.notes(), 1);
        told.same("up to what doesn't sound", broken.lengthOf(0), 3);
        told.at("Frames", "A tone of 3 frames or more");
        told.same("one frame", raw(empty(), 5000).notes(), 0);
        told.same("two", raw(empty(), 5000, 5000).notes(), 0);
        told.same("three", raw(empty(), 5000, 5000, 5000).notes(), 1);
        Tuneward between = raw(empty(), 5000, 5000, 5000, 5100, 5100, 5200, 5200, 5200);
        told.same("a slide between notes", between.notes(), 2);
        told.same("the slide is no note", between.startOf(1), 5);
        told.at("Frames", "Notes are numbered from 0");
        Tuneward many = raw(empty(), 100, 100);
        for (int i = 0; i < 16; i++) {
            raw(many, 3000 + 100 * i, 3000 + 100 * i, 3000 + 100 * i);
            told.same("how many", many.notes(), i + 1);
            told.same("the latest", many.pitchOf(i), 3000 + 100 * i);
        }
        raw(many, 9000, 9000, 9000);
        told.same("a seventeenth", many.notes(), 16);
        told.same("the sixteenth behind it", many.pitchOf(15), 4500);
        told.same("the first", many.startOf(0), 2);
        told.refused("a note 16", INDEX, Rooms::full, one -> one.pitchOf(16));
    }

    private void notePitches() {
        told.at("Frames", "The pitch of a note is the middle one");
        told.same("three, none cut", raw(empty(), 5030, 5000, 5010).pitchOf(0), 5010);
        told.same("four, one cut at both ends", raw(empty(), 5040, 5030, 5035, 5040).pitchOf(0),
                5030);
        told.same("seven, one", raw(empty(), 5000, 5030, 5035, 5020, 5010, 5050, 5060).pitchOf(0),
                5030);
        told.same("eight, two", raw(empty(), 5000, 5040, 5080, 5090, 5085, 5070, 5110, 5150)
                .pitchOf(0), 5080);
        told.same("the lower one of both", raw(empty(), 5000, 5020, 5010, 5000).pitchOf(0), 5010);
        told.same("an odd number", raw(empty(), 5160, 5120, 5130, 5095, 5080).pitchOf(0), 5120);
        Tuneward all = empty();
        for (int i = 0; i < 120; i++) {
            raw(all, i < 30 || i >= 90 ? 5030 : i < 60 ? 5010 : 5020);
        }
        told.same("120, thirty", all.pitchOf(0), 5010);
        told.at("Frames", "Its certainty is the mean");
        told.same("cut", sure(50, 50, 52).certaintyOf(0), 50);
        told.same("the lowest", sure(50, 50, 50).certaintyOf(0), 50);
        told.same("the highest", sure(99, 99, 99).certaintyOf(0), 99);
        told.same("its ends too", sure(99, 50, 50, 50).certaintyOf(0), 62);
    }

    private static Tuneward sure(int... certainties) {
        Tuneward room = empty();
        for (int certainty : certainties) {
            room.frame(5000, 50, certainty);
        }
        return room;
    }

    private void songs() {
        told.at("Songs", "At most 5 are numbered from 0");
        Tuneward room = empty();
        for (int song = 0; song < 5; song++) {
            told.same("number", room.song(), song);
            for (int i = 1; i <= 16; i++) {
                told.same("how many notes", room.add(song, 24, 16), i);
            }
        }
        told.refused("a sixth", STATE, () -> withSongs(5), Tuneward::song);
        told.refused("a 17th note", STATE, Rooms::full, one -> one.add(0, 0, 1),
                one -> one.add(4, 24, 16));
        told.within(0, 24, ARGUMENT, Rooms::rich, (one, step) -> one.add(1, step, 1));
        told.within(1, 16, ARGUMENT, Rooms::rich, (one, beats) -> one.add(1, 0, beats));
    }

    private void tunings() {
        told.at("Songs", "The pitch of a step is 1200");
        int[][] cents = {
            {0, 100, 200, 300, 400, 500, 600, 700, 800, 900, 1000, 1100},
            {0, 112, 204, 316, 386, 498, 590, 702, 814, 884, 1018, 1088},
            {0, 90, 204, 294, 408, 498, 612, 702, 792, 906, 996, 1110}};
        Tuneward room = empty();
        for (int tuning = 0; tuning < 3; tuning++) {
            for (int step = 0; step <= 24; step++) {
                told.same("tuning " + tuning + ", step " + step, room.centsOf(step),
                        1200 * (step / 12) + cents[tuning][step % 12]);
            }
            room.tune(tuning == 0 ? 'j' : 'p');
        }
        told.at("Songs", "Each of the twelve");
        for (int step = 0; step < 12; step++) {
            Tuneward one = empty();
            one.tuneStep(step, 1199);
            told.same("told " + step, one.centsOf(step), 1199);
            told.same("an octave above", one.centsOf(step + 12), 2399);
            told.same("another one", one.centsOf(step == 0 ? 1 : step - 1),
                    step == 0 ? 100 : 100 * step - 100);
            told.same("the one chosen", one.tune('e'), 'e');
            told.same("till the same is chosen", one.centsOf(step), 100 * step);
        }
        room.tuneStep(7, 1);
        told.refused("till then", ARGUMENT, Rooms::rich, one -> one.tune('E'));
        room.tune('j');
        told.same("till another is chosen", room.centsOf(7), 702);
    }
}
