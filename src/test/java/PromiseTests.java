import java.util.ArrayList;
import java.util.List;

/** For each promise of the document: ordinary inputs, its edges and wrong inputs. */
public final class PromiseTests extends Rooms {
    private static final Checks CHECKS = new Checks("PromiseTests");

    public static void main(String[] args) {
        newObject();
        samples();
        periods();
        frames();
        hushAndMove();
        notesFound();
        notePitches();
        songs();
        tunings();
        wholePaths();
        pathsByNote();
        pathTies();
        kinds();
        leapKinds();
        keysLost();
        longPaths();
        songSung();
        leaning();
        voice();
        learning();
        learningLimits();
        nextInterval();
        choirs();
        choirLimits();
        variants();
        shares();
        sums();
        truth();
        thrownChangesNothing();
        CHECKS.end();
    }

    private static void same(String what, Object got, Object want) {
        CHECKS.same(what, got, want);
    }

    private static void thrown(String what, Class<? extends RuntimeException> want,
            Checks.Call call) {
        CHECKS.thrown(what, want, call);
    }

    private static void newObject() {
        Tuneward room = new Tuneward();
        same("1 notes", room.notes(), 0);
        same("1 frames", room.hush(), 0);
        same("1 tired", room.tired(), 0);
        same("1 blend", room.blend(), 0);
        same("1 mastery", room.mastery(0), 20);
        same("1 tuning", room.tune('p'), 'e');
        same("1 range", room.range(0, 0), 4800);
        thrown("1 no songs", INDEX, () -> room.sizeOf(0));
        thrown("1 no singers", INDEX, () -> room.offOf(0));
        same("1 first song", room.song(), 0);
        same("1 first seat", room.seat(0, 0), 0);
        same("1 first frame", room.frame(0, 0, 0), 1);
        same("1 first sample", room.sample(0), 1);
        same("1 rooms apart", new Tuneward().hush(), 0);
    }

    private static void samples() {
        Tuneward room = new Tuneward();
        same("2 low edge", room.sample(-99), 1);
        same("2 high edge", room.sample(99), 2);
        thrown("2 too low", ARGUMENT, () -> room.sample(-100));
        thrown("2 too high", ARGUMENT, () -> room.sample(100));
        thrown("2 far off", ARGUMENT, () -> room.sample(Integer.MIN_VALUE));
        for (int i = 3; i <= 48; i++) {
            same("2 count", room.sample(0), i);
        }
        thrown("2 full", STATE, () -> room.sample(0));
        thrown("2 the first of two", ARGUMENT, () -> room.sample(100));
        room.period();
        same("2 after a period", room.sample(0), 1);
    }

    private static void periods() {
        thrown("3 none", MISSING, () -> new Tuneward().period());
        Tuneward three = hearing(1, 2, 3);
        thrown("3 three", MISSING, () -> three.period());
        same("3 kept by what is thrown", three.sample(4), 4);
        same("3 four", three.period(), 2);
        thrown("3 gone", MISSING, () -> three.period());
        same("3 three beats two", hearing(0, 50, 90, 0, 50, 90).period(), 3);
        same("3 a lag needs twice as many", hearing(0, 50, 90, 0, 50).period(), 2);
        same("3 the least of like lags", hearing(7, 7, 7, 7, 7, 7, 7, 7, 7, 7).period(), 2);
        int[] wave = new int[48];
        for (int i = 0; i < 48; i++) {
            wave[i] = i % 24 == 23 ? 99 : i % 24 == 5 ? -99 : i % 24 * 3;
        }
        same("3 the greatest lag", hearing(wave).period(), 24);
        slackOfPeriods();
    }

    // Rows are sought in which the distance of a lag lies just on the edge of what is enough, or
    // beyond it by one.
    private static void slackOfPeriods() {
        int on = 0;
        int beyond = 0;
        Numbers numbers = new Numbers(3);
        for (int run = 0; run < 200000 && (on < 5 || beyond < 5); run++) {
            int[] row = new int[numbers.between(6, 11)];
            for (int i = 0; i < row.length; i++) {
                row[i] = numbers.between(-9, 9);
            }
            int least = Integer.MAX_VALUE;
            for (int lag = 2; 2 * lag <= row.length; lag++) {
                least = Math.min(least, distance(row, lag));
            }
            int over = distance(row, 2) - (least + least / 10 + 5);
            if (over == 0) {
                on++;
                same("3 on the edge", hearing(row).period(), 2);
            } else if (over == 1) {
                beyond++;
                CHECKS.holds("3 beyond the edge", hearing(row).period() > 2);
            }
        }
        CHECKS.holds("3 both sides of the edge were met", on > 0 && beyond > 0);
    }

    private static int distance(int[] row, int lag) {
        int sum = 0;
        for (int i = lag; i < row.length; i++) {
            sum += Math.abs(row[i] - row[i - lag]);
        }
        return 100 * sum / (row.length - lag);
    }

    private static void frames() {
        Tuneward room = new Tuneward();
        same("4 low edges", room.frame(0, 0, 0), 1);
        same("4 high edges", room.frame(9999, 99, 99), 2);
        int[][] wrong = {{-1, 0, 0}, {10000, 0, 0}, {0, -1, 0}, {0, 100, 0}, {0, 0, -1}, {0, 0, 100}};
        for (int[] row : wrong) {
            thrown("4 out of range", ARGUMENT, () -> room.frame(row[0], row[1], row[2]));
        }
        for (int i = 3; i <= 120; i++) {
            same("4 count", room.frame(i, 0, 0), i);
        }
        thrown("4 full", STATE, () -> room.frame(5, 50, 90));
        thrown("4 the first of two", ARGUMENT, () -> room.frame(5, 100, 90));
        same("4 none tires but what sounds", room.tired(), 4);
    }

    private static void hushAndMove() {
        Tuneward room = new Tuneward();
        same("5 none", room.hush(), 0);
        sing(room, 6000, 6200);
        same("5 all", room.hush(), 8);
        same("5 gone", room.notes(), 0);
        same("5 still tired", room.tired(), 6);
        same("5 begins anew", room.frame(1, 1, 1), 1);
        room.hush();
        same("6 none", room.move(2400), 0);
        sing(room, 6000);
        same("6 count", room.move(-400), 4);
        same("6 moved down", room.pitchOf(0), 5600);
        thrown("6 too low", ARGUMENT, () -> room.move(-2401));
        thrown("6 too high", ARGUMENT, () -> room.move(2401));
        Tuneward high = new Tuneward();
        raw(high, 7599, 7590, 7595);
        high.frame(2400, 0, 0);
        same("6 to the upper edge", high.move(2400), 4);
        same("6 moved", high.pitchOf(0), 9995);
        thrown("6 above", UNSUPPORTED, () -> high.move(1));
        same("6 unmoved by what is thrown", high.pitchOf(0), 9995);
        same("6 back", high.move(-2400), 4);
        same("6 to the lower edge", high.move(-2400), 4);
        thrown("6 a frame that does not sound counts", UNSUPPORTED, () -> high.move(-1));
        thrown("6 the first of two", ARGUMENT, () -> high.move(-2401));
    }

    private static void notesFound() {
        Tuneward room = new Tuneward();
        raw(room, 5000, 5000);
        same("7 a slide", room.notes(), 0);
        raw(room, 5040);
        same("7 three frames, 40 apart", room.notes(), 1);
        raw(room, 5081, 5121, 5081);
        same("7 41 apart", room.notes(), 2);
        same("8 second", room.startOf(1), 3);
        same("9 second", room.lengthOf(1), 3);
        room.frame(5081, 9, 99);
        raw(room, 5081, 5081, 5081);
        room.frame(5081, 99, 49);
        raw(room, 5081, 5081);
        same("7 silence and uncertainty part", room.notes(), 3);
        same("8 behind silence", room.startOf(2), 7);
        raw(room, 5081, 5050, 5020, 4980);
        same("8 a tone that falls", room.startOf(3), 11);
        same("9 a tone that falls", room.lengthOf(3), 6);
        thrown("8 below", INDEX, () -> room.startOf(-1));
        thrown("8 above", INDEX, () -> room.startOf(4));
        thrown("9 below", INDEX, () -> room.lengthOf(-1));
        thrown("9 above", INDEX, () -> room.lengthOf(4));
        Tuneward many = new Tuneward();
        for (int i = 0; i < 17; i++) {
            sing(many, 3000 + 100 * i);
        }
        same("7 sixteen at most", many.notes(), 16);
        same("8 the first sixteen", many.startOf(15), 60);
        thrown("8 the seventeenth", INDEX, () -> many.startOf(16));
        thrown("9 far off", INDEX, () -> many.lengthOf(Integer.MAX_VALUE));
    }

    private static void notePitches() {
        Tuneward room = new Tuneward();
        raw(room, 5030, 5000, 5010);
        same("10 three", room.pitchOf(0), 5010);
        room.hush();
        raw(room, 5040, 5020, 5000, 4960);
        same("10 four without their ends, the lower one", room.pitchOf(0), 5000);
        room.hush();
        raw(room, 5040, 5030, 5035, 5040);
        same("10 four, of both in the middle alone", room.pitchOf(0), 5030);
        room.hush();
        raw(room, 5000, 5030, 5035, 5020, 5010, 5050, 5060);
        same("10 seven without one at each end", room.pitchOf(0), 5030);
        room.hush();
        raw(room, 5000, 5040, 5080, 5090, 5085, 5070, 5110, 5150);
        same("10 eight without two at each end", room.pitchOf(0), 5080);
        room.hush();
        raw(room, 5000, 5040, 5080, 5085, 5120, 5160);
        same("10 six, a fourth of them is one", room.pitchOf(0), 5080);
        room.hush();
        raw(room, 5160, 5120, 5130, 5095, 5080);
        same("10 five, a fourth of them is one", room.pitchOf(0), 5120);
        thrown("10 below", INDEX, () -> room.pitchOf(-1));
        thrown("10 above", INDEX, () -> room.pitchOf(1));
        room.hush();
        room.frame(5000, 10, 50);
        room.frame(5000, 10, 50);
        room.frame(5000, 10, 52);
        room.frame(5000, 10, 51);
        same("11 cut, of all frames", room.certaintyOf(0), 50);
        room.frame(5000, 10, 99);
        same("11 of five", room.certaintyOf(0), 60);
        thrown("11 below", INDEX, () -> room.certaintyOf(-1));
        thrown("11 above", INDEX, () -> room.certaintyOf(1));
        for (int i = 0; i < 115; i++) {
            room.frame(5000 + i % 2 * 10, 99, 99);
        }
        same("9 all frames in one", room.lengthOf(0), 120);
        same("10 all frames in one", room.pitchOf(0), 5000);
        same("11 all frames in one", room.certaintyOf(0), 97);
    }

    private static void songs() {
        Tuneward room = new Tuneward();
        thrown("13 no song", INDEX, () -> room.add(0, 0, 1));
        thrown("13 the first of two", INDEX, () -> room.add(0, 25, 1));
        for (int i = 0; i < 5; i++) {
            same("12 number", room.song(), i);
        }
        thrown("12 full", STATE, () -> room.song());
        thrown("13 below", INDEX, () -> room.add(-1, 0, 1));
        thrown("13 above", INDEX, () -> room.add(5, 0, 1));
        same("13 low edges", room.add(2, 0, 1), 1);
        same("13 high edges", room.add(2, 24, 16), 2);
        thrown("13 step below", ARGUMENT, () -> room.add(2, -1, 1));
        thrown("13 step above", ARGUMENT, () -> room.add(2, 25, 1));
        thrown("13 no beat", ARGUMENT, () -> room.add(2, 0, 0));
        thrown("13 beats above", ARGUMENT, () -> room.add(2, 0, 17));
        for (int i = 3; i <= 16; i++) {
            same("13 count", room.add(2, 1, 1), i);
        }
        thrown("13 full", STATE, () -> room.add(2, 1, 1));
        thrown("13 the second of three", ARGUMENT, () -> room.add(2, 1, 17));
        same("14 full", room.sizeOf(2), 16);
        same("14 none", room.sizeOf(4), 0);
        thrown("14 below", INDEX, () -> room.sizeOf(-1));
        thrown("14 above", INDEX, () -> room.sizeOf(5));
    }

    private static void tunings() {
        int[] just = {0, 112, 204, 316, 386, 498, 590, 702, 814, 884, 1018, 1088};
        int[] fifths = {0, 90, 204, 294, 408, 498, 612, 702, 792, 906, 996, 1110};
        Tuneward room = new Tuneward();
        for (int step = 0; step <= 24; step++) {
            same("17 equal", room.centsOf(step), 100 * step);
        }
        same("15 equal before", room.tune('j'), 'e');
        for (int step = 0; step <= 24; step++) {
            same("17 just", room.centsOf(step), step / 12 * 1200 + just[step % 12]);
        }
        same("15 just before", room.tune('p'), 'j');
        for (int step = 0; step <= 24; step++) {
            same("17 fifths", room.centsOf(step), step / 12 * 1200 + fifths[step % 12]);
        }
        thrown("15 unknown", ARGUMENT, () -> room.tune('x'));
        thrown("15 other case", ARGUMENT, () -> room.tune('E'));
        thrown("15 zero", ARGUMENT, () -> room.tune((char) 0));
        same("16 before", room.tuneStep(11, 1199), 1110);
        same("16 low edges", room.tuneStep(0, 0), 0);
        same("16 twice", room.tuneStep(11, 5), 1199);
        same("17 told otherwise", room.centsOf(23), 1205);
        same("17 others stay", room.centsOf(22), 2196);
        thrown("16 step below", ARGUMENT, () -> room.tuneStep(-1, 0));
        thrown("16 step above", ARGUMENT, () -> room.tuneStep(12, 0));
        thrown("16 cents below", ARGUMENT, () -> room.tuneStep(0, -1));
        thrown("16 cents above", ARGUMENT, () -> room.tuneStep(0, 1200));
        thrown("17 below", ARGUMENT, () -> room.centsOf(-1));
        thrown("17 above", ARGUMENT, () -> room.centsOf(25));
        same("15 the same", room.tune('p'), 'p');
        same("17 told as before", room.centsOf(11), 1110);
        same("15 kept by what was thrown", room.tune('e'), 'p');
        same("17 equal again", room.centsOf(11), 1100);
        Tuneward song = sing(withSong(0, 4), 6000, 6386);
        same("18 equal", song.cost(0), 1);
        song.tune('j');
        same("18 by the tuning", song.cost(0), 0);
        same("21 by the tuning", song.off(0, 1), 0);
    }

    private static void wholePaths() {
        Tuneward room = new Tuneward();
        thrown("18 no song", INDEX, () -> room.cost(0));
        addSong(room);
        addSong(room, 0, 2, 4);
        thrown("18 no notes sung", UNSUPPORTED, () -> room.cost(1));
        sing(room, 6000, 6200, 6400);
        thrown("18 no notes in the song", UNSUPPORTED, () -> room.cost(0));
        thrown("18 below", INDEX, () -> room.cost(-1));
        thrown("18 above", INDEX, () -> room.cost(2));
        same("18 clean", room.cost(1), 0);
        same("18 moved", sing(withSong(0, 2, 4), 7000, 7200, 7400).cost(0), 0);
        same("18 a tenth, cut", sing(withSong(0, 2, 4), 6000, 6209, 6389).cost(0), 1);
        same("18 a note of the song left", sing(withSong(0, 2, 4), 6000, 6400).cost(0), 30);
        same("18 a note put in", sing(withSong(0, 2), 6000, 6900, 6200).cost(0), 30);
        // The key that is one more costs 3 at once and then none.
        same("18 a key that rises", sing(withSong(0, 2, 4), 6000, 6225, 6425).cost(0), 3);
        same("20 a key that rises", sing(withSong(0, 2, 4), 6000, 6225, 6425).keyOf(0, 2), 1);
        same("18 none worth it", sing(withSong(0, 2), 6000, 9000).cost(0), 60);
        // A first note that is wrong: the keys of the others differ from it, from 0 for the first.
        same("18 a wrong first note", sing(withSong(0, 2, 4), 6100, 6200, 6400).cost(0), 12);
        same("20 a wrong first note", sing(withSong(0, 2, 4), 6100, 6200, 6400).keyOf(0, 1), -4);
    }

    private static void pathsByNote() {
        Tuneward room = withSong(0, 2, 4);
        addSong(room);
        thrown("19 no note", INDEX, () -> room.laidOn(0, 0));
        thrown("20 no note", INDEX, () -> room.keyOf(0, 0));
        thrown("21 no note", INDEX, () -> room.off(0, 0));
        thrown("22 no note", INDEX, () -> room.kindOf(0, 0));
        thrown("26 no note", INDEX, () -> room.lean(0, 0));
        sing(room, 6000, 9000, 6415);
        for (int[] wrong : new int[][] {{-1, 0}, {2, 0}, {0, -1}, {0, 3}, {1, 3}, {1, -1}}) {
            int song = wrong[0];
            int note = wrong[1];
            thrown("19 no such", INDEX, () -> room.laidOn(song, note));
            thrown("20 no such", INDEX, () -> room.keyOf(song, note));
            thrown("21 no such", INDEX, () -> room.off(song, note));
            thrown("22 no such", INDEX, () -> room.kindOf(song, note));
            thrown("26 no such", INDEX, () -> room.lean(song, note));
        }
        thrown("19 an empty song", UNSUPPORTED, () -> room.laidOn(1, 2));
        thrown("20 an empty song", UNSUPPORTED, () -> room.keyOf(1, 2));
        thrown("21 an empty song", UNSUPPORTED, () -> room.off(1, 2));
        thrown("22 an empty song", UNSUPPORTED, () -> room.kindOf(1, 2));
        thrown("26 an empty song", UNSUPPORTED, () -> room.lean(1, 2));
        same("19 first", room.laidOn(0, 0), 0);
        same("19 none", room.laidOn(0, 1), -1);
        same("19 last", room.laidOn(0, 2), 2);
        same("20 last", room.keyOf(0, 2), 0);
        same("21 last", room.off(0, 2), 15);
        thrown("20 laid on none", MISSING, () -> room.keyOf(0, 1));
        thrown("21 laid on none", MISSING, () -> room.off(0, 1));
        thrown("26 laid on none", MISSING, () -> room.lean(0, 1));
        same("22 laid on none", room.kindOf(0, 1), 'n');
        Tuneward low = sing(withSong(0, 2), 6000, 6150);
        same("20 down", low.keyOf(0, 1), -1);
        same("21 below", low.off(0, 1), -25);
        // Two that are laid on none cost 60, as does one that is off by 600.
        same("19 worth it", sing(withSong(0, 0), 6000, 6599).laidOn(0, 1), 1);
        same("19 not worth it", sing(withSong(0, 0), 6000, 6600).laidOn(0, 1), -1);
        Tuneward edge = sing(withSong(0, 0, 0, 0, 0), 6000, 6250, 6250, 6250, 6250);
        same("20 the highest key", edge.keyOf(0, 4), 8);
        same("21 beyond the highest key", edge.off(0, 4), 50);
        same("18 the highest key", edge.cost(0), 44);
    }

    private static void pathTies() {
        // Either note may be laid on the one note: that in which the first is laid on none is best.
        Tuneward twice = sing(withSong(0), 6000, 6000);
        same("19 the first on none", twice.laidOn(0, 0), -1);
        same("19 the second on one", twice.laidOn(0, 1), 0);
        Tuneward places = sing(withSong(0, 0), 6000);
        same("19 the earlier note", places.laidOn(0, 0), 0);
        // 30 off costs 3, and so does the next key, which is the lower one where it is below.
        same("20 the lower key above", sing(withSong(0, 2), 6000, 6230).keyOf(0, 1), 0);
        same("20 the lower key below", sing(withSong(0, 2), 6000, 6170).keyOf(0, 1), -1);
        same("21 the lower key below", sing(withSong(0, 2), 6000, 6170).off(0, 1), -5);
        Tuneward gap = sing(withSong(0, 5, 5, 7), 6000, 6500, 6700);
        same("19 the earlier of like ones", gap.laidOn(0, 1), 1);
        same("19 behind a gap", gap.laidOn(0, 2), 3);
    }

    private static void kinds() {
        Tuneward room = new Tuneward();
        addSong(room, 0, 2, 4, 5, 7, 9, 11);
        tone(room, 6000, 3, 60);
        tone(room, 6220, 3, 60);
        tone(room, 6421, 3, 60);
        tone(room, 6479, 3, 60);
        tone(room, 6721, 3, 59);
        tone(room, 6880, 3, 60);
        room.range(6000, 6880);
        same("22 good", room.kindOf(0, 0), 'o');
        same("22 20 above", room.kindOf(0, 1), 'o');
        same("22 21 above", room.kindOf(0, 2), 's');
        same("22 21 below", room.kindOf(0, 3), 'f');
        same("22 unsure", room.kindOf(0, 4), 'u');
        same("22 20 below", room.kindOf(0, 5), 'o');
        room.range(6001, 6879);
        same("22 below the range", room.kindOf(0, 0), 'r');
        same("22 above the range", room.kindOf(0, 5), 'r');
        same("22 unsure ahead of range", room.kindOf(0, 4), 'u');
        room.range(0, 6300);
        same("22 range ahead of off", room.kindOf(0, 2), 'r');
        Tuneward none = withSong(0);
        tone(none, 6000, 3, 55);
        tone(none, 6000, 3, 55);
        same("22 none ahead of unsure", none.kindOf(0, 0), 'n');
        same("22 unsure alone", none.kindOf(0, 1), 'u');
    }

    private static void leapKinds() {
        same("22 a leap short by 31", sing(withSong(0, 5), 6000, 6469).kindOf(0, 1), 'l');
        same("22 a leap short by 30", sing(withSong(0, 5), 6000, 6470).kindOf(0, 1), 'o');
        same("22 a leap down short by 31", sing(withSong(12, 7), 6000, 5531).kindOf(0, 1), 'l');
        same("22 a leap short by 39", sing(withSong(0, 5), 6000, 6461).kindOf(0, 1), 'l');
        same("22 no leap", sing(withSong(0, 4), 6000, 6361).kindOf(0, 1), 'f');
        same("22 a leap too far", sing(withSong(0, 5), 6000, 6532).kindOf(0, 1), 's');
        same("22 the first has none ahead", sing(withSong(0, 5), 6000, 6469).kindOf(0, 0), 'o');
        Tuneward range = sing(withSong(0, 5), 6000, 6469);
        range.range(0, 6400);
        same("22 range ahead of leap", range.kindOf(0, 1), 'r');
        // The leap is that from the last one laid, not from the last one sung.
        Tuneward over = sing(withSong(0, 5), 6000, 9000, 6465);
        same("22 laid on none between", over.kindOf(0, 1), 'n');
        same("22 a leap over it", over.kindOf(0, 2), 'l');
        // Steps that are 4 apart may lie far apart in cents, but are no leap.
        Tuneward told = withSong(0, 4);
        told.tuneStep(4, 900);
        sing(told, 6000, 6840);
        same("22 far but no leap", told.kindOf(0, 1), 'f');
    }

    private static void keysLost() {
        Tuneward room = new Tuneward();
        addSong(room);
        thrown("23 below", INDEX, () -> room.drift(-1));
        thrown("23 above", INDEX, () -> room.drift(1));
        thrown("24 below", INDEX, () -> room.lost(-1));
        thrown("24 above", INDEX, () -> room.lost(1));
        thrown("23 nothing at all", UNSUPPORTED, () -> room.drift(0));
        thrown("24 nothing at all", UNSUPPORTED, () -> room.lost(0));
        addSong(room, 0, 2);
        thrown("23 no notes", UNSUPPORTED, () -> room.drift(1));
        thrown("24 no notes", UNSUPPORTED, () -> room.lost(1));
        sing(room, 6000, 6200);
        thrown("23 an empty song", UNSUPPORTED, () -> room.drift(0));
        thrown("24 an empty song", UNSUPPORTED, () -> room.lost(0));
        same("23 none", room.drift(1), 0);
        Tuneward up = sing(withSong(0, 2, 4, 5), 6000, 6250, 6475, 6575);
        same("23 up", up.drift(0), 3);
        same("24 by two and one", up.lost(0), 0);
        Tuneward three = sing(withSong(0, 2, 4, 5, 7, 9, 11, 12),
                6000, 6275, 6475, 6575, 6775, 6875, 7075, 7175);
        same("23 up and down", three.drift(0), -1);
        same("24 by three and by four", three.lost(0), 2);
        // The first note is laid with the key 4 below: nothing is ahead of it from which it differs.
        Tuneward first = sing(withSong(0, 2, 4), 6000, 6000, 6200, 6400);
        same("24 nothing lost", first.lost(0), 0);
        Tuneward wrong = sing(withSong(0, 2, 4, 5, 7), 6100, 6200, 6400, 6500, 6700);
        same("20 from a wrong first note", wrong.keyOf(0, 1), -4);
        same("23 from a wrong first note", wrong.drift(0), wrong.keyOf(0, 4) - wrong.keyOf(0, 0));
        same("24 from a wrong first note", wrong.lost(0), 1);
    }

    private static void longPaths() {
        int[] steps = {0, 2, 4, 5, 7, 9, 11, 12, 14, 16, 17, 19, 21, 23, 24, 22};
        Tuneward room = withSong(steps);
        for (int i = 0; i < 16; i++) {
            tone(room, 4800 + 100 * steps[i] + (i < 8 ? 0 : 25), 3, 90);
        }
        raw(room, 3000, 3000, 3000);
        same("7 seventeen tones", room.notes(), 16);
        same("18 the longest", room.cost(0), 3);
        same("19 the longest", room.laidOn(0, 15), 15);
        same("20 the longest", room.keyOf(0, 15), 1);
        same("23 the longest", room.drift(0), 1);
        room.range(0, 9999);
        same("22 the longest", kinds(room, 0, 16), "oooooooooooooooo");
        same("43 the longest", room.isTrue(), true);
        Tuneward other = withSong(0, 0, 0, 0, 0, 0, 0, 0, 0, 0, 0, 0, 0, 0, 0, 0);
        for (int i = 0; i < 16; i++) {
            tone(other, i == 0 ? 0 : 9900, 3, 90);
        }
        same("18 nearly none laid", other.cost(0), 30 * 30);
        same("19 the only one laid", other.laidOn(0, 0), 0);
        same("19 the last of many on none", other.laidOn(0, 15), -1);
        same("18 one on sixteen", sing(withSong(steps), 5000).cost(0), 450);
        same("18 sixteen on one", sing(withSong(0), 3000, 4000, 3000, 4000, 3000, 4000, 3000, 4000,
                3000, 4000, 3000, 4000, 3000, 4000, 3000, 4000).cost(0), 450);
    }

    private static void songSung() {
        Tuneward room = new Tuneward();
        thrown("25 nothing", MISSING, () -> room.sung());
        addSong(room);
        sing(room, 6000, 6200);
        thrown("25 only an empty song", MISSING, () -> room.sung());
        addSong(room, 0, 5);
        same("25 the only one with notes", room.sung(), 1);
        addSong(room, 0, 2);
        same("25 the cheapest", room.sung(), 2);
        addSong(room, 7, 9);
        same("25 the lowest of like ones", room.sung(), 2);
        room.hush();
        thrown("25 no notes", MISSING, () -> room.sung());
        Tuneward one = sing(withSong(7), 6000);
        same("25 a note on a note", one.sung(), 0);
        addSong(one, 8);
        addSong(one, 7, 8);
        addSong(one);
        same("25 the first of like ones", one.sung(), 0);
    }

    private static void leaning() {
        Tuneward room = new Tuneward();
        room.song();
        room.add(0, 0, 2);
        room.add(0, 2, 1);
        room.add(0, 4, 16);
        tone(room, 6000, 5, 90);
        tone(room, 9000, 7, 90);
        tone(room, 6200, 4, 90);
        same("26 first", room.lean(0, 0), 5 * 3 - 2 * 9);
        same("26 last", room.lean(0, 2), 4 * 3 - 1 * 9);
    }

    private static void voice() {
        Tuneward room = new Tuneward();
        same("27 at first", room.range(5000, 5000), 4800);
        same("27 then", room.range(0, 9999), 5000);
        thrown("27 low below", ARGUMENT, () -> room.range(-1, 5));
        thrown("27 high above", ARGUMENT, () -> room.range(5, 10000));
        thrown("27 low above", ARGUMENT, () -> room.range(10000, 10000));
        thrown("27 high below", ARGUMENT, () -> room.range(0, -1));
        thrown("27 turned round", ARGUMENT, () -> room.range(6, 5));
        same("27 kept by what was thrown", room.range(1, 1), 0);
        room.frame(0, 19, 50);
        same("28 a twentieth, cut", room.tired(), 0);
        room.frame(0, 39, 50);
        same("28 one", room.tired(), 1);
        room.frame(0, 99, 49);
        same("28 what is uncertain does not tire", room.tired(), 1);
        for (int i = 0; i < 74; i++) {
            room.frame(0, 99, 99);
        }
        same("28 much", room.tired(), 297);
        room.frame(0, 99, 99);
        same("28 most", room.tired(), 300);
        room.frame(0, 99, 99);
        same("28 no more", room.tired(), 300);
        thrown("29 no day", ARGUMENT, () -> room.rest(0));
        thrown("29 many days", ARGUMENT, () -> room.rest(100));
        same("29 a day", room.rest(1), 240);
        same("29 two days", room.rest(2), 120);
        same("28 rested", room.tired(), 120);
        same("29 all gone", room.rest(99), 0);
        same("29 no less", room.rest(1), 0);
        Tuneward outside = sing(withSong(0), 7200);
        same("27 the upper edge at first", outside.kindOf(0, 0), 'o');
        same("27 beyond it", sing(withSong(0), 7201).kindOf(0, 0), 'r');
        same("27 the lower edge at first", sing(withSong(0), 4800).kindOf(0, 0), 'o');
        same("27 below it", sing(withSong(0), 4799).kindOf(0, 0), 'r');
    }

    private static void learning() {
        Tuneward room = new Tuneward();
        thrown("30 no song", INDEX, () -> room.learn(0));
        addSong(room);
        addSong(room, 0, 2, 4, 9, 9, 2, 22);
        thrown("30 no notes", UNSUPPORTED, () -> room.learn(1));
        sing(room, 5000, 5200, 5425, 5869, 5900, 5200);
        tone(room, 7200, 3, 90);
        thrown("30 an empty song", UNSUPPORTED, () -> room.learn(0));
        same("30 kinds", kinds(room, 1, 7), "ooslooo");
        same("30 changes", room.learn(1), 5);
        same("31 a good and a bad second", room.mastery(2), 22);
        same("31 a short leap", room.mastery(5), 17);
        same("31 the same step", room.mastery(0), 25);
        same("31 down", room.mastery(7), 25);
        same("31 others stay", room.mastery(1), 20);
        thrown("30 twice", STATE, () -> room.learn(1));
        thrown("30 no such song, learnt", INDEX, () -> room.learn(9));
        thrown("30 an empty song, learnt", UNSUPPORTED, () -> room.learn(0));
        thrown("31 below", ARGUMENT, () -> room.mastery(-1));
        thrown("31 above", ARGUMENT, () -> room.mastery(13));
        room.frame(0, 0, 0);
        same("30 after a frame", room.learn(1), 5);
        room.move(0);
        same("30 after a move", room.learn(1), 5);
        thrown("30 by any song", STATE, () -> room.learn(1));
        thrown("6 a move that throws", ARGUMENT, () -> room.move(9999));
        thrown("30 after a move that throws", STATE, () -> room.learn(1));
        thrown("4 a frame that throws", ARGUMENT, () -> room.frame(0, 0, 100));
        thrown("30 after a frame that throws", STATE, () -> room.learn(1));
        room.tune('e');
        room.add(1, 0, 1);
        thrown("30 after other calls", STATE, () -> room.learn(1));
        same("31 thrice", room.mastery(7), 35);
    }

    private static String kinds(Tuneward room, int song, int notes) {
        StringBuilder all = new StringBuilder();
        for (int note = 0; note < notes; note++) {
            all.append(room.kindOf(song, note));
        }
        return all.toString();
    }

    private static void learningLimits() {
        Tuneward good = sing(withSong(0, 12, 0, 13), 5000, 6200, 5000, 6300);
        same("30 the widest interval twice, beyond it none", good.learn(0), 2);
        same("31 the widest interval", good.mastery(12), 30);
        for (int i = 0; i < 6; i++) {
            good.move(0);
            same("30 twice more", good.learn(0), 2);
        }
        same("31 ninety", good.mastery(12), 90);
        good.move(0);
        same("30 to the edge", good.learn(0), 2);
        same("31 the highest", good.mastery(12), 99);
        good.move(0);
        same("30 no other number", good.learn(0), 0);
        thrown("30 learnt all the same", STATE, () -> good.learn(0));
        Tuneward bad = sing(withSong(0, 1), 6000, 6121);
        for (int i = 0; i < 7; i++) {
            bad.move(0);
            same("30 each less", bad.learn(0), 1);
        }
        same("31 the lowest", bad.mastery(1), 0);
        bad.move(0);
        same("30 no lower", bad.learn(0), 0);
        Tuneward unsure = withSong(0, 2, 4);
        tone(unsure, 7100, 3, 90);
        tone(unsure, 7300, 3, 90);
        tone(unsure, 7500, 3, 55);
        same("30 out of range or unsure", unsure.learn(0), 0);
        same("31 untouched", unsure.mastery(2), 20);
        Tuneward leap = sing(withSong(0, 7), 6000, 6665);
        same("30 a leap", leap.kindOf(0, 1), 'l');
        same("30 a leap short", leap.learn(0), 1);
        same("31 a leap short", leap.mastery(7), 17);
        Tuneward skip = sing(withSong(0, 2, 4), 6000, 9000, 6400);
        same("30 from the last laid", skip.learn(0), 1);
        same("31 from the last laid", skip.mastery(4), 25);
        Tuneward flat = sing(withSong(0, 2), 6000, 6171);
        same("22 flat", flat.kindOf(0, 1), 'f');
        same("30 flat", flat.learn(0), 1);
        same("31 flat", flat.mastery(2), 17);
        Tuneward one = sing(withSong(0), 6000);
        same("30 one alone", one.learn(0), 0);
    }

    /** Sings an interval often enough for its mastery to become at least so much. */
    private static void teach(Tuneward room, int song, int interval, int mastery) {
        room.hush();
        sing(room, 5000, 5000 + 100 * interval);
        for (int i = 0; i < 20 && room.mastery(interval) < mastery; i++) {
            room.move(0);
            room.learn(song);
        }
    }

    /** A room in which the interval 0 was sung well and then badly so often. */
    private static Tuneward withFirsts(int good, int bad) {
        Tuneward room = sing(withSong(0, 0), 5000, 5000);
        for (int i = 0; i < good; i++) {
            room.move(0);
            room.learn(0);
        }
        room.hush();
        sing(room, 5000, 5021);
        for (int i = 0; i < bad; i++) {
            room.move(0);
            room.learn(0);
        }
        return room;
    }

    private static void nextInterval() {
        Tuneward room = new Tuneward();
        same("32 at first", room.next(), 0);
        addSong(room, 0, 0);
        addSong(room, 0, 1);
        addSong(room, 0, 2);
        teach(room, 0, 0, 65);
        same("32 below 70", room.next(), 0);
        same("32 sixty-nine", withFirsts(11, 2).mastery(0), 69);
        same("32 sixty-nine is below", withFirsts(11, 2).next(), 0);
        teach(room, 0, 0, 70);
        same("32 seventy", room.next(), 1);
        teach(room, 1, 1, 70);
        same("32 on", room.next(), 2);
        Tuneward gap = new Tuneward();
        addSong(gap, 0, 0);
        teach(gap, 0, 0, 99);
        same("32 the next stands at twenty", gap.next(), 1);
        Tuneward all = new Tuneward();
        addSong(all, 0, 0, 1, 3, 6, 10, 15);
        addSong(all, 0, 6, 13, 21);
        addSong(all, 0, 9, 19);
        addSong(all, 0, 11);
        addSong(all, 0, 12);
        int[][] sung = {{0, 0, 1, 3, 6, 10, 15}, {0, 6, 13, 21}, {0, 9, 19}, {0, 11}, {0, 12}};
        int[] next = {6, 9, 11, 12};
        for (int song = 0; song < 5; song++) {
            all.hush();
            for (int step : sung[song]) {
                tone(all, 4800 + 100 * step, 3, 90);
            }
            for (int i = 0; i < 10; i++) {
                all.move(0);
                all.learn(song);
            }
            if (song < 4) {
                same("32 after song " + song, all.next(), next[song]);
            }
        }
        thrown("32 none", MISSING, () -> all.next());
        nextBehindOneThatStands();
    }

    // Interval 1 is mastered without 0 ahead: 0 stays the next one. Then 0 is mastered too, and 2,
    // behind 1 at 40 or more, is next; where 1 is at 39 or less, it is 1 itself.
    private static void nextBehindOneThatStands() {
        Tuneward room = new Tuneward();
        addSong(room, 0, 0);
        addSong(room, 0, 1);
        teach(room, 1, 1, 70);
        same("32 nought is always learnable", room.next(), 0);
        teach(room, 0, 0, 70);
        same("32 the lowest such", room.next(), 2);
        // Bad firsts bring 0 down to 37: then 0 is below 70 and next again.
        room.hush();
        sing(room, 5000, 5021);
        for (int i = 0; i < 11; i++) {
            room.move(0);
            room.learn(0);
        }
        same("31 down again", room.mastery(0), 37);
        same("32 down again", room.next(), 0);
        Tuneward barred = new Tuneward();
        addSong(barred, 0, 0, 1, 3, 6, 10, 15);
        addSong(barred, 0, 2);
        for (int step : new int[] {0, 0, 1, 3, 6, 10, 15}) {
            tone(barred, 4800 + 100 * step, 3, 90);
        }
        for (int i = 0; i < 16; i++) {
            barred.move(0);
            barred.learn(0);
        }
        same("32 behind those that stand", barred.next(), 6);
        barred.hush();
        sing(barred, 5000, 5221);
        for (int i = 0; i < 20; i++) {
            barred.move(0);
            barred.learn(1);
        }
        same("31 two fell", barred.mastery(2), 39);
        same("32 two fell", barred.next(), 2);
    }

    private static void choirs() {
        Tuneward room = new Tuneward();
        thrown("34 none", UNSUPPORTED, () -> room.choir(1));
        thrown("34 the first of two", ARGUMENT, () -> room.choir(0));
        same("33 low edges", room.seat(-99, 0), 0);
        same("33 high edges", room.seat(99, 10), 1);
        thrown("33 off below", ARGUMENT, () -> room.seat(-100, 0));
        thrown("33 off above", ARGUMENT, () -> room.seat(100, 0));
        thrown("33 pull below", ARGUMENT, () -> room.seat(0, -1));
        thrown("33 pull above", ARGUMENT, () -> room.seat(0, 11));
        thrown("34 no step", ARGUMENT, () -> room.choir(0));
        thrown("34 many steps", ARGUMENT, () -> room.choir(61));
        same("37 two", room.blend(), 198);
        same("34 rounded down", room.choir(1), -51);
        same("35 no pull", room.offOf(0), -100);
        same("35 half way, all by what was ahead", room.offOf(1), -1);
        thrown("35 below", INDEX, () -> room.offOf(-1));
        thrown("35 above", INDEX, () -> room.offOf(2));
        for (int i = 2; i < 8; i++) {
            same("33 number", room.seat(i, i), i);
        }
        thrown("33 full", STATE, () -> room.seat(0, 0));
        thrown("33 the first of two", ARGUMENT, () -> room.seat(0, 11));
        same("37 eight", room.blend(), 99 + 3 + 5);
        thrown("36 below", INDEX, () -> room.swap(-1, 0));
        thrown("36 above", INDEX, () -> room.swap(8, 0));
        thrown("36 the other below", INDEX, () -> room.swap(0, -1));
        thrown("36 the other above", INDEX, () -> room.swap(0, 8));
        same("36 the same", room.swap(3, 3), 107);
        same("36 blend", room.swap(0, 7), 8 + 3 + 4 + 106);
        same("35 changed seats", room.offOf(0), 7);
        same("35 the other too", room.offOf(7), -100);
        same("37 after", room.blend(), 121);
    }

    private static void choirLimits() {
        Tuneward mean = seated(-2, 0, 0, 10, -5, 0);
        mean.choir(1);
        // The mean of -2 and -5 is -4 rounded down; 10 * -4 / 20 is -2, and all sink by 1.
        same("34 the mean rounded down", mean.offOf(1), -3);
        Tuneward cut = seated(0, 3, -9, 0);
        cut.choir(1);
        same("34 cut towards 0 below", cut.offOf(0), -2);
        Tuneward cutUp = seated(0, 3, 9, 0);
        cutUp.choir(1);
        same("34 cut towards 0 above", cutUp.offOf(0), 0);
        Tuneward both = seated(0, 10, 20, 10);
        both.choir(1);
        same("34 the first by what was ahead", both.offOf(0), 9);
        same("34 the second by what was ahead", both.offOf(1), 9);
        Tuneward pulls = seated(0, 0, 40, 10);
        same("36 pulls go along", pulls.swap(0, 1), 40);
        pulls.choir(1);
        same("35 the pull went along", pulls.offOf(0), 19);
        same("35 no pull went along", pulls.offOf(1), -1);
        Tuneward alone = seated(5, 10);
        same("34 one alone", alone.choir(60), -55);
        for (int i = 0; i < 15; i++) {
            alone.choir(60);
        }
        same("34 almost", alone.offOf(0), -955);
        same("34 the lowest", alone.choir(60), -999);
        same("34 no lower", alone.choir(60), -999);
        same("37 one alone", alone.blend(), 0);
        same("34 mean of three, down", seated(0, 0, 0, 0, 1, 0).choir(1), -1);
        same("34 mean of two, down", seated(0, 0, 1, 0).choir(1), -1);
    }

    private static void variants() {
        Tuneward room = new Tuneward();
        thrown("38 none", INDEX, () -> room.distance(0, 0));
        thrown("39 none", INDEX, () -> room.parent(0));
        addSong(room, 0, 2, 4, 5, 7);
        same("38 itself", room.distance(0, 0), 0);
        addSong(room, 5, 7, 9, 10, 12);
        same("38 moved", room.distance(0, 1), 0);
        addSong(room, 0, 2, 4, 7);
        // Leaps 2 2 1 2 and 2 2 3: one taken out, one made another one.
        same("38 taken out and another one", room.distance(0, 2), 2);
        same("38 turned round", room.distance(2, 0), 2);
        addSong(room);
        same("38 to nothing", room.distance(0, 3), 4);
        same("38 from nothing", room.distance(3, 0), 4);
        addSong(room, 12, 10, 8, 7, 5);
        same("38 leaps down are others", room.distance(0, 4), 4);
        thrown("38 below", INDEX, () -> room.distance(-1, 0));
        thrown("38 above", INDEX, () -> room.distance(5, 0));
        thrown("38 the other below", INDEX, () -> room.distance(0, -1));
        thrown("38 the other above", INDEX, () -> room.distance(0, 5));
        thrown("39 the first", MISSING, () -> room.parent(0));
        thrown("39 below", INDEX, () -> room.parent(-1));
        thrown("39 above", INDEX, () -> room.parent(5));
        same("39 the only one", room.parent(1), 0);
        same("39 the latest of like ones", room.parent(2), 1);
        same("39 least", room.parent(3), 2);
        Tuneward later = new Tuneward();
        addSong(later, 0, 1, 3, 6);
        addSong(later, 0, 7, 0);
        addSong(later, 2, 3, 5, 8);
        same("39 an earlier one that is nearer", later.parent(2), 0);
        Tuneward falling = new Tuneward();
        addSong(falling, 0, 5, 9, 1);
        addSong(falling, 0, 1, 3, 6);
        addSong(falling, 0, 1, 3, 9);
        addSong(falling, 0, 1, 9, 3);
        addSong(falling, 2, 3, 5, 7);
        same("39 the latest of those that are least", falling.parent(4), 2);
        Tuneward insert = new Tuneward();
        addSong(insert, 0, 1, 3, 6, 10);
        addSong(insert, 0, 9, 10, 12, 15, 19);
        same("38 put in at the beginning", insert.distance(0, 1), 1);
        Tuneward one = new Tuneward();
        addSong(one, 7);
        addSong(one, 9);
        addSong(one);
        same("38 one note has no leap", one.distance(0, 1), 0);
        same("38 none and one", one.distance(0, 2), 0);
        Tuneward full = new Tuneward();
        addSong(full, 0, 1, 0, 1, 0, 1, 0, 1, 0, 1, 0, 1, 0, 1, 0, 1);
        addSong(full, 0, 2, 0, 2, 0, 2, 0, 2, 0, 2, 0, 2, 0, 2, 0, 2);
        same("38 full songs", full.distance(0, 1), 15);
    }

    private static void shares() {
        Tuneward room = new Tuneward();
        thrown("40 no song", INDEX, () -> room.share(0));
        addSong(room);
        addSong(room, 0, 2, 4);
        thrown("40 no notes", UNSUPPORTED, () -> room.share(1));
        thrown("41 none", ArithmeticException.class, () -> room.meanPitch());
        same("41 one", sing(new Tuneward(), 6001).meanPitch(), 6001.0);
        sing(room, 6000, 6200, 6425);
        thrown("40 an empty song", UNSUPPORTED, () -> room.share(0));
        thrown("40 below", INDEX, () -> room.share(-1));
        thrown("40 above", INDEX, () -> room.share(2));
        same("40 two of three", room.share(1), 2f / 3f);
        same("41 three", room.meanPitch(), 18625.0 / 3.0);
        sing(room, 9900);
        same("40 one laid on none counts", room.share(1), 0.5f);
        same("41 four", room.meanPitch(), 28525.0 / 4.0);
        same("40 all", sing(withSong(0, 2), 6000, 6200).share(0), 1f);
        same("40 none", sing(withSong(0, 2), 3000, 3200).share(0), 0f);
        Tuneward many = new Tuneward();
        for (int i = 0; i < 17; i++) {
            sing(many, 1000 + 100 * i);
        }
        same("41 the first sixteen", many.meanPitch(), 1750.0);
    }

    private static long summed(int... numbers) {
        long sum = 7;
        for (int number : numbers) {
            sum = 31 * sum + number;
        }
        return sum;
    }

    private static void sums() {
        same("42 new", new Tuneward().checksum(),
                summed(20, 20, 20, 20, 20, 20, 20, 20, 20, 20, 20, 20, 20, 0));
        Tuneward room = new Tuneward();
        sing(room, 6000);
        tone(room, 7000, 4, 99);
        addSong(room, 0, 10);
        addSong(room);
        room.seat(-5, 5);
        room.seat(99, 1);
        room.sample(5);
        room.tuneStep(10, 1010);
        room.learn(0);
        same("42 all", room.checksum(), summed(6000, 3, 7000, 4, 2, 0,
                20, 20, 20, 20, 20, 20, 20, 20, 20, 20, 25, 20, 20, -5, 99, 7));
        room.swap(0, 1);
        same("42 by seats", room.checksum(), summed(6000, 3, 7000, 4, 2, 0,
                20, 20, 20, 20, 20, 20, 20, 20, 20, 20, 25, 20, 20, 99, -5, 7));
    }

    private static void truth() {
        same("43 new", new Tuneward().isTrue(), true);
        Tuneward room = new Tuneward();
        addSong(room);
        addSong(room, 0, 2, 4, 5, 7, 9, 11, 12);
        addSong(room, 24, 20, 3, 3, 0);
        same("43 no notes", room.isTrue(), true);
        sing(room, 6000, 6230, 6170, 9999, 6520, 6720, 6777, 7100, 0, 7200);
        same("43 notes", room.isTrue(), true);
        int cost = room.cost(1);
        room.learn(1);
        same("43 learnt", room.isTrue(), true);
        same("43 changes nothing", room.cost(1), cost);
        same("43 no move", room.pitchOf(0), 6000);
    }

    /** What can be asked of a room without changing it. */
    private static String shown(Tuneward room) {
        List<Object> all = new ArrayList<>();
        all.add(room.checksum());
        all.add(room.notes());
        all.add(room.blend());
        all.add(Checks.outcome(() -> room.next()));
        all.add(Checks.outcome(() -> room.sung()));
        all.add(Checks.outcome(() -> room.meanPitch()));
        for (int i = 0; i < 25; i++) {
            all.add(room.centsOf(i));
        }
        for (int i = 0; i < 5; i++) {
            int song = i;
            all.add(Checks.outcome(() -> room.cost(song)));
            all.add(Checks.outcome(() -> room.parent(song)));
            all.add(Checks.outcome(() -> room.share(song)));
            all.add(Checks.outcome(() -> room.drift(song)));
            for (int j = 0; j < room.notes(); j++) {
                int note = j;
                all.add(room.startOf(j) + " " + room.certaintyOf(j));
                all.add(Checks.outcome(() -> room.kindOf(song, note)));
                all.add(Checks.outcome(() -> room.lean(song, note)));
                all.add(Checks.outcome(() -> room.off(song, note)));
            }
        }
        return all.toString();
    }

    private static void thrownChangesNothing() {
        Tuneward room = new Tuneward();
        addSong(room, 0, 2, 4);
        addSong(room);
        sing(room, 6000, 9000, 6415);
        room.seat(5, 5);
        room.seat(-50, 10);
        room.learn(0);
        String before = shown(room);
        Checks.Call[] calls = {
            () -> room.sample(100), () -> room.period(), () -> room.frame(10000, 99, 99),
            () -> room.frame(0, 100, 99), () -> room.frame(0, 99, -1), () -> room.move(2401),
            () -> room.move(1500), () -> room.startOf(3),
            () -> room.lengthOf(-1), () -> room.pitchOf(3), () -> room.certaintyOf(3),
            () -> room.add(0, 25, 1), () -> room.add(0, 0, 17), () -> room.add(2, 0, 1),
            () -> room.sizeOf(2), () -> room.tune('q'), () -> room.tuneStep(4, 1200),
            () -> room.tuneStep(12, 5), () -> room.centsOf(25), () -> room.cost(1),
            () -> room.laidOn(1, 0), () -> room.keyOf(0, 1), () -> room.off(0, 1),
            () -> room.kindOf(0, 3), () -> room.drift(1), () -> room.lost(2),
            () -> room.lean(0, 1), () -> room.range(6500, 6400), () -> room.range(0, 10000),
            () -> room.rest(0), () -> room.rest(100), () -> room.learn(0), () -> room.learn(1),
            () -> room.mastery(13), () -> room.seat(100, 0), () -> room.seat(0, 11),
            () -> room.choir(0), () -> room.choir(61), () -> room.offOf(2), () -> room.swap(0, 2),
            () -> room.swap(-1, 0), () -> room.distance(0, 2), () -> room.parent(0),
            () -> room.share(1)};
        for (int i = 0; i < calls.length; i++) {
            CHECKS.holds("call " + i + " throws",
                    String.valueOf(Checks.outcome(calls[i])).endsWith("Exception"));
            same("call " + i + " changes nothing", shown(room), before);
        }
        same("frames stay", room.hush(), 12);
        same("samples stay", room.sample(1), 1);
        Tuneward full = new Tuneward();
        for (int i = 0; i < 5; i++) {
            full.song();
            full.seat(i, i);
        }
        for (int i = 5; i < 8; i++) {
            full.seat(i, i);
        }
        for (int i = 0; i < 120; i++) {
            full.frame(6000 + i / 10 * 100, 50, 90);
        }
        for (int i = 0; i < 16; i++) {
            full.add(4, i, 1);
        }
        String filled = shown(full);
        thrown("12 beyond", STATE, () -> full.song());
        thrown("33 beyond", STATE, () -> full.seat(1, 1));
        thrown("4 beyond", STATE, () -> full.frame(6000, 50, 90));
        thrown("13 beyond", STATE, () -> full.add(4, 1, 1));
        same("beyond changes nothing", shown(full), filled);
    }
}
