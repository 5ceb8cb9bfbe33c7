/** The document's terms of paths, errors and leaning. */
final class PathSentences extends Rooms {
    private final Sentences told;

    PathSentences(Sentences told) {
        this.told = told;
    }

    void go() {
        paths();
        keys();
        costs();
        bestPaths();
        offs();
        kinds();
        leaps();
        nones();
        lostKeys();
        leaning();
    }

    private void paths() {
        told.at("Paths", "A path lays each note");
        // Were it not in order, all three would be laid at no cost.
        Tuneward crossed = sing(withSong(0, 12, 24), 6000, 8400, 7200);
        told.same("in order", crossed.cost(0), 60);
        told.same("laid on none for it", crossed.laidOn(0, 1), -1);
        told.same("behind all", crossed.laidOn(0, 2), 1);
        Tuneward twice = sing(withSong(0), 6000, 6000);
        told.same("not twice on one", twice.cost(0), 30);
        told.same("one on one", sing(withSong(7), 6000).cost(0), 0);
        Tuneward high = sing(withSong(0, 0, 0, 0, 0), 6000, 6250, 6250, 6250, 6250);
        told.same("up to the key 8", high.keyOf(0, 4), 8);
        told.same("a key of 10 would cost 30", high.cost(0), 44);
        Tuneward low = sing(withSong(0, 0, 0, 0, 0), 6000, 5750, 5750, 5750, 5750);
        told.same("down to the key -8", low.keyOf(0, 4), -8);
        told.same("a key of -10 would cost 30", low.cost(0), 44);
        told.same("from the key 8 down again", sing(withSong(new int[9]), 6000, 6250, 6250, 6250,
                6250, 6100, 6100, 6100, 6100).cost(0), 56);
        told.same("from the key -8 up again", sing(withSong(new int[9]), 6000, 5750, 5750, 5750,
                5750, 5900, 5900, 5900, 5900).cost(0), 56);
        Tuneward eight = sing(withSong(0, 0, 0, 0, 0), 6000, 6200, 6200, 6200, 6200);
        told.same("the key 8 itself", eight.cost(0), 24);
        Tuneward minus = sing(withSong(0, 0, 0, 0, 0), 6000, 5800, 5800, 5800, 5800);
        told.same("the key -8 itself", minus.cost(0), 24);
    }

    private void keys() {
        told.at("Paths", "The key 0 is");
        told.same("by the song's first note", sing(withSong(5, 7), 6000, 6200).cost(0), 0);
        told.same("not by its lowest", sing(withSong(7, 0), 6700, 6000).keyOf(0, 1), 0);
        Tuneward up = sing(withSong(0, 2, 4), 6000, 6225, 6425);
        told.same("one up", up.keyOf(0, 1), 1);
        told.same("25 for it", up.off(0, 1), 0);
        Tuneward down = sing(withSong(0, 2, 4), 6000, 6175, 6375);
        told.same("one down", down.keyOf(0, 2), -1);
        told.same("-25 for it", down.off(0, 2), 0);
        // The first note sung gives the key also where it is laid on none.
        Tuneward none = sing(withSong(0, 2, 4, 5), 6100, 6000, 6200, 6400, 6500);
        told.same("laid on none", none.laidOn(0, 0), -1);
        told.same("by the first note sung", none.keyOf(0, 1), -4);
        Tuneward lowest = sing(withSong(24, 0), 0, 9999);
        told.same("a key below nought", lowest.off(0, 0), 0);
    }

    private void costs() {
        told.at("Paths", "A path costs");
        int[][] tenths = {{0, 0}, {9, 0}, {10, 1}, {19, 1}, {20, 2}, {29, 2}, {30, 3}};
        for (int[] row : tenths) {
            told.same(row[0] + " above", sing(withSong(0, 2), 6000, 6200 + row[0]).cost(0), row[1]);
            told.same(row[0] + " below", sing(withSong(0, 2), 6000, 6200 - row[0]).cost(0), row[1]);
        }
        Tuneward two = sing(addSong(withSong(0, 2, 4), 0, 2), 6000, 6200);
        told.same("the longer song", two.cost(0), 30);
        told.same("the shorter one behind it", two.cost(1), 0);
        told.same("each cut alone", sing(withSong(0, 2, 4), 6000, 6209, 6409).cost(0), 0);
        told.same("3 for a key", sing(withSong(0, 2, 4), 6000, 6225, 6425).cost(0), 3);
        told.same("3 for each key, up and down",
                sing(withSong(0, 2, 4, 5, 7, 9, 11), 6000, 6300, 6500, 6600, 6700, 6900, 7100)
                        .cost(0), 24);
        told.same("from 0 for the first",
                sing(withSong(0, 2, 4, 5), 6100, 6000, 6200, 6400, 6500).cost(0), 42);
        told.same("the last one laid, not sung",
                sing(withSong(0, 2, 4, 5), 6000, 6225, 9000, 6425, 6525).cost(0), 33);
        told.same("30 for one on none", sing(withSong(0, 2), 6000, 9000, 6200).cost(0), 30);
        told.same("30 for one left", sing(withSong(0, 2, 4), 6000, 6400).cost(0), 30);
        told.same("30 for both", sing(withSong(0, 2), 6000, 9000).cost(0), 60);
        int[] full = {0, 2, 4, 5, 7, 9, 11, 12, 14, 16, 17, 19, 21, 23, 24, 22};
        told.same("one on sixteen", sing(withSong(full), 5000).cost(0), 450);
        Tuneward sixteen = withSong(0);
        for (int i = 0; i < 17; i++) {
            sing(sixteen, i % 2 == 0 ? 3000 : 4000);
        }
        told.same("sixteen on one, a seventeenth not counting", sixteen.cost(0), 450);
        Tuneward both = withSong(full);
        for (int step : full) {
            sing(both, 5000 + 100 * step);
        }
        told.same("sixteen on sixteen", both.cost(0), 0);
        told.same("the last on the last", both.laidOn(0, 15), 15);
    }

    private void bestPaths() {
        told.at("Paths", "The best path is");
        // An off of 600 costs 60, as does one on none and one left.
        told.same("59 is less than 60", sing(withSong(0, 0), 6000, 6599).laidOn(0, 1), 1);
        told.same("of like ones on none", sing(withSong(0, 0), 6000, 6600).laidOn(0, 1), -1);
        told.same("59 below", sing(withSong(6, 6), 6000, 5401).laidOn(0, 1), 1);
        told.same("60 below", sing(withSong(6, 6), 6000, 5400).laidOn(0, 1), -1);
        Tuneward twice = sing(withSong(0), 6000, 6000);
        told.same("the first unlike on none", twice.laidOn(0, 0), -1);
        told.same("then the second on one", twice.laidOn(0, 1), 0);
        told.same("the earlier note", sing(withSong(0, 0), 6000).laidOn(0, 0), 0);
        Tuneward gap = sing(withSong(0, 5, 5, 5, 7), 6000, 6500, 6500, 6700);
        told.same("the earlier of three", gap.laidOn(0, 1), 1);
        told.same("the earlier of two", gap.laidOn(0, 2), 2);
        told.same("behind them", gap.laidOn(0, 3), 4);
        told.same("30 above: the lower key", sing(withSong(0, 2), 6000, 6230).keyOf(0, 1), 0);
        told.same("30 below: the lower key", sing(withSong(0, 2), 6000, 6170).keyOf(0, 1), -1);
        told.same("29 below: it costs least", sing(withSong(0, 2), 6000, 6171).keyOf(0, 1), 0);
        told.same("60 below", sing(withSong(0, 2), 6000, 6140).keyOf(0, 1), -1);
        // An earlier note comes before a key: 30 below the first of both, 30 above the second.
        Tuneward place = withSong(0, 3, 2);
        place.tuneStep(3, 260);
        sing(place, 6000, 6230);
        told.same("the earlier note ahead of the key", place.laidOn(0, 1), 1);
        told.same("then the lower key", place.keyOf(0, 1), -1);
    }

    private void offs() {
        told.at("Errors", "A note that the best path lays on one is off");
        told.same("not at all", sing(withSong(4), 6000).off(0, 0), 0);
        told.same("above", sing(withSong(0, 2), 6000, 6215).off(0, 1), 15);
        told.same("below", sing(withSong(0, 2), 6000, 6185).off(0, 1), -15);
        told.same("less the key", sing(withSong(0, 2, 4), 6000, 6240, 6440).off(0, 1), 15);
        told.same("the most", sing(withSong(0, 0), 6000, 6599).off(0, 1), 599);
        told.refused("laid on none", MISSING, Rooms::rich, one -> one.off(0, 1));
    }

    /** The kind of the last note, sung with this certainty, by the first song. */
    private static char kind(Tuneward room, int pitch, int certainty) {
        tone(room, pitch, 3, certainty);
        return room.kindOf(0, room.notes() - 1);
    }

    private static Tuneward begun(int... steps) {
        return sing(withSong(steps), 6000);
    }

    private void kinds() {
        told.at("Errors", "Its kind is the first");
        told.same("59 certain", kind(begun(0, 2), 6200, 59), 'u');
        told.same("60 certain", kind(begun(0, 2), 6200, 60), 'o');
        Tuneward mean = withSong(0);
        mean.frame(6000, 50, 60);
        mean.frame(6000, 50, 59);
        mean.frame(6000, 50, 60);
        told.same("59 and two thirds certain", mean.kindOf(0, 0), 'u');
        int[][] ranges = {{6000, 6200, 'o', 'o'}, {6001, 6200, 'r', 'o'}, {6000, 6199, 'o', 'r'},
            {6200, 6200, 'r', 'o'}, {6000, 6000, 'o', 'r'}, {0, 9999, 'o', 'o'}};
        for (int[] row : ranges) {
            Tuneward room = sing(begun(0, 2), 6200);
            room.range(row[0], row[1]);
            told.same("low of " + row[0] + " to " + row[1], room.kindOf(0, 0), (char) row[2]);
            told.same("high of " + row[0] + " to " + row[1], room.kindOf(0, 1), (char) row[3]);
        }
        told.same("21 above", kind(begun(0, 2), 6221, 90), 's');
        told.same("20 above", kind(begun(0, 2), 6220, 90), 'o');
        told.same("21 below", kind(begun(0, 2), 6179, 90), 'f');
        told.same("20 below", kind(begun(0, 2), 6180, 90), 'o');
        Tuneward off = begun(0, 2);
        off.range(6000, 6200);
        told.same("'r' before 's'", kind(off, 6221, 90), 'r');
        Tuneward low = begun(2, 0);
        low.range(5900, 7000);
        told.same("'r' before 'f'", kind(low, 5779, 90), 'r');
        Tuneward unsure = begun(0, 2);
        unsure.range(6000, 6000);
        told.same("'u' before 'r'", kind(unsure, 6200, 59), 'u');
        told.same("'u' before 'l'", kind(begun(0, 5), 6469, 59), 'u');
        told.same("'u' before 's'", kind(begun(0, 2), 6221, 59), 'u');
        told.same("one alone", sing(withSong(0), 6000).kindOf(0, 0), 'o');
    }

    private void leaps() {
        told.at("Errors", "Its kind is the first");
        told.same("a leap of 5, 31 less", kind(begun(0, 5), 6469, 90), 'l');
        told.same("a leap of 5, 30 less", kind(begun(0, 5), 6470, 90), 'o');
        told.same("a leap of 4, 31 less", kind(begun(0, 4), 6369, 90), 'o');
        told.same("4 above step 3, 31 less", kind(begun(3, 7), 6369, 90), 'o');
        told.same("4 below step 24, 31 less", kind(begun(24, 20), 5631, 90), 's');
        told.same("5 above step 3, 31 less", kind(begun(3, 8), 6469, 90), 'l');
        told.same("a leap of 4, 39 less", kind(begun(0, 4), 6361, 90), 'f');
        told.same("down, 31 less, before 's'", kind(begun(5, 0), 5531, 90), 'l');
        told.same("down, 30 less", kind(begun(5, 0), 5530, 90), 's');
        told.same("before 'f'", kind(begun(0, 5), 6461, 90), 'l');
        told.same("not less but more", kind(begun(0, 5), 6531, 90), 's');
        told.same("down, more", kind(begun(5, 0), 5479, 90), 'f');
        told.same("none ahead", sing(withSong(5, 0), 6000, 5531).kindOf(0, 0), 'o');
        Tuneward range = begun(0, 5);
        range.range(6000, 6468);
        told.same("'r' before 'l'", kind(range, 6469, 90), 'r');
        told.same("over one on none", kind(sing(begun(0, 5), 9000), 6469, 90), 'l');
        Tuneward far = begun(0, 4);
        far.tuneStep(4, 900);
        told.same("far in cents, 4 in steps", kind(far, 6869, 90), 'o');
        Tuneward near = begun(0, 5);
        near.tuneStep(5, 31);
        told.same("5 in steps, none sung of 31", kind(near, 6000, 90), 'l');
        Tuneward nearer = begun(0, 5);
        nearer.tuneStep(5, 30);
        told.same("5 in steps, none sung of 30", kind(nearer, 6000, 90), 'o');
    }

    private void nones() {
        told.at("Errors", "A note that is laid on none");
        told.same("laid on none", rich().kindOf(0, 1), 'n');
        Tuneward unsure = tone(tone(withSong(0), 100, 3, 55), 100, 3, 55);
        told.same("unsure and out of range too", unsure.kindOf(0, 0), 'n');
        told.same("the other one", unsure.kindOf(0, 1), 'u');
    }

    private void lostKeys() {
        told.at("Errors", "A key is lost");
        int[] steps = {0, 2, 4, 5, 7};
        told.same("3 up", sing(withSong(steps), 6000, 6275, 6475, 6575, 6775).lost(0), 1);
        told.same("2 up", sing(withSong(steps), 6000, 6250, 6450, 6550, 6750).lost(0), 0);
        told.same("3 down", sing(withSong(steps), 6000, 6125, 6325, 6425, 6625).lost(0), 1);
        told.same("2 down", sing(withSong(steps), 6000, 6150, 6350, 6450, 6650).lost(0), 0);
        told.same("3 over one on none",
                sing(withSong(steps), 6000, 9000, 6275, 6475, 6575, 6775).lost(0), 1);
        told.same("2 and 1", sing(withSong(steps), 6000, 6250, 6475, 6575, 6775).lost(0), 0);
        Tuneward first = sing(withSong(0, 2, 4, 5), 6100, 6000, 6200, 6400, 6500);
        told.same("none ahead of a first key of -4", first.lost(0), 0);
        told.same("one alone", sing(withSong(0), 6000).lost(0), 0);
    }

    private void leaning() {
        told.at("Leaning", "The pulse is the frames");
        Tuneward room = empty();
        room.song();
        room.add(0, 0, 2);
        room.add(0, 2, 1);
        room.add(0, 4, 16);
        tone(room, 6000, 5, 90);
        tone(room, 9000, 7, 90);
        tone(room, 6400, 4, 90);
        told.same("of what is laid alone, 9 by 18", room.lean(0, 0), 5 * 18 - 2 * 9);
        told.at("Leaning", "A note leans by its frames");
        told.same("little", room.lean(0, 2), 4 * 18 - 16 * 9);
        told.same("one alone doesn't lean", tone(withSong(0), 6000, 7, 90).lean(0, 0), 0);
        Tuneward most = empty();
        most.song();
        most.add(0, 0, 1);
        most.add(0, 12, 16);
        tone(most, 5000, 116, 90);
        raw(most, 6200, 6200, 6200);
        told.same("the most frames, the fewest beats", most.lean(0, 0), 116 * 17 - 119);
        told.same("the fewest frames, the most beats", most.lean(0, 1), 3 * 17 - 16 * 119);
    }
}
