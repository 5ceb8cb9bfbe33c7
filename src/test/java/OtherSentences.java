/** The document's terms of voices, lessons, choirs, variants and exceptions. */
final class OtherSentences extends Rooms {
    private final Sentences told;

    OtherSentences(Sentences told) {
        this.told = told;
    }

    void go() {
        voices();
        masteries();
        learning();
        nextLearnable();
        choirs();
        steps();
        variants();
        nothingChanges();
        firstListed();
    }

    private void voices() {
        told.at("Voices", "The range is 4800 to 7200");
        int[][] edges = {{4799, 'r'}, {4800, 'o'}, {7200, 'o'}, {7201, 'r'}};
        for (int[] row : edges) {
            told.same("a pitch of " + row[0], sing(withSong(0), row[0]).kindOf(0, 0),
                    (char) row[1]);
        }
        told.same("the lowest before", empty().range(1, 2), 4800);
        told.at("Voices", "Each frame that sounds");
        int[][] louds = {{10, 0}, {19, 0}, {20, 1}, {39, 1}, {40, 2}, {79, 3}, {80, 4}, {99, 4}};
        for (int[] row : louds) {
            Tuneward one = empty();
            one.frame(0, row[0], 50);
            told.same("as loud as " + row[0], one.tired(), row[1]);
        }
        Tuneward silent = empty();
        silent.frame(5000, 99, 49);
        silent.frame(5000, 9, 99);
        told.same("frames that don't sound", silent.tired(), 0);
        told.same("a slide tires too", loud(2).tired(), 8);
        told.same("three less than 300", tone(loud(74), 0, 1, 50).tired(), 297);
        told.same("300 itself", loud(75).tired(), 300);
        told.same("no more than 300", loud(76).tired(), 300);
        told.same("one less than 300", tone(loud(74), 0, 3, 50).tired(), 299);
        told.same("one more than 299", tone(loud(74), 0, 4, 50).tired(), 300);
        told.same("one more than 300", tone(loud(74), 0, 5, 50).tired(), 300);
        told.same("a day takes 60", loud(75).rest(1), 240);
        told.same("60 less 60", loud(15).rest(1), 0);
        told.same("no less than none", loud(14).rest(1), 0);
        told.same("61 less 60", tone(loud(15), 0, 1, 50).rest(1), 1);
        Tuneward again = loud(75);
        again.rest(4);
        again.frame(0, 99, 99);
        told.same("tired anew", again.tired(), 64);
    }

    private static Tuneward loud(int frames) {
        Tuneward room = empty();
        for (int i = 0; i < frames; i++) {
            room.frame(0, 99, 99);
        }
        return room;
    }

    private void masteries() {
        told.at("Lessons", "For each interval");
        Tuneward room = empty();
        for (int interval = 0; interval <= 12; interval++) {
            told.same("20 at first", room.mastery(interval), 20);
        }
        told.within(0, 12, ARGUMENT, Rooms::rich, Tuneward::mastery);
    }

    private static Tuneward learnt(Tuneward room) {
        room.learn(0);
        return room;
    }

    private void learning() {
        told.at("Lessons", "To learn by a song");
        told.same("12 steps", learnt(sing(withSong(0, 12), 5000, 6200)).mastery(12), 25);
        told.same("13 steps count nowhere", sing(withSong(0, 13), 5000, 6300).learn(0), 0);
        told.same("24 steps", sing(withSong(0, 24), 4800, 7200).learn(0), 0);
        told.same("24 steps down", sing(withSong(24, 0), 7200, 4800).learn(0), 0);
        told.same("none", learnt(sing(withSong(7, 7), 5000, 5000)).mastery(0), 25);
        told.same("down", learnt(sing(withSong(12, 0), 6200, 5000)).mastery(12), 25);
        told.same("one alone", sing(withSong(0), 6000).learn(0), 0);
        told.same("the first of two counts nowhere", sing(withSong(0, 2), 6000, 6200).learn(0), 1);
        told.same("over one on none", learnt(sing(withSong(0, 4), 5000, 9000, 5400)).mastery(4),
                25);
        told.same("'s'", learnt(sing(withSong(0, 2), 6000, 6221)).mastery(2), 17);
        told.same("'f'", learnt(sing(withSong(0, 2), 6000, 6179)).mastery(2), 17);
        told.same("'l'", learnt(sing(withSong(0, 5), 6000, 6469)).mastery(5), 17);
        told.same("'r'", learnt(sing(withSong(0, 2), 7100, 7300)).mastery(2), 20);
        Tuneward unsure = tone(sing(withSong(0, 2), 6000), 6200, 3, 59);
        told.same("'u'", learnt(unsure).mastery(2), 20);
        told.same("up to 95", practise(sing(withSong(0, 2), 6000, 6200), 0, 15).mastery(2), 95);
        Tuneward high = practise(sing(withSong(0, 2), 6000, 6200), 0, 16);
        told.same("99, not 100", high.mastery(2), 99);
        told.same("no other number", practise(high, 0, 1).mastery(2), 99);
        told.same("down to 2", practise(sing(withSong(0, 2), 6000, 6221), 0, 6).mastery(2), 2);
        Tuneward low = practise(sing(withSong(0, 2), 6000, 6221), 0, 7);
        told.same("0, not -1", low.mastery(2), 0);
        told.same("no other number", practise(low, 0, 1).mastery(2), 0);
        // By their order: 5 more and then 3 less at 95 is 96, the other way round 97.
        Tuneward order = practise(sing(withSong(0, 2), 6000, 6200), 0, 15);
        order.hush();
        addSong(order, 0, 2, 4);
        sing(order, 6000, 6200, 6421);
        told.same("two by their order", order.learn(1), 2);
        told.same("99 and 3 less", order.mastery(2), 96);
    }

    /** The mastery of this interval after it was sung well and then badly so often. */
    private static Tuneward practised(Tuneward room, int song, int interval, int good, int bad) {
        room.hush();
        practise(sing(room, 5000, 5000 + 100 * interval), song, good);
        room.hush();
        return practise(sing(room, 5000, 5021 + 100 * interval), song, bad);
    }

    private void nextLearnable() {
        told.at("Lessons", "An interval is next learnable");
        told.same("0 needs none that is less", empty().next(), 0);
        Tuneward almost = practised(withSong(0, 0), 0, 0, 11, 2);
        told.same("69", almost.mastery(0), 69);
        told.same("69 is below 70", almost.next(), 0);
        Tuneward just = practised(withSong(0, 0), 0, 0, 10, 0);
        told.same("70", just.mastery(0), 70);
        told.same("70 isn't", just.next(), 1);
        told.same("the lowest such", practise(sing(withSong(0, 2), 6000, 6200), 0, 4).next(), 0);
        Tuneward onward = addSong(withSong(0, 0), 0, 1);
        practised(onward, 0, 0, 10, 0);
        practised(onward, 1, 1, 10, 0);
        told.same("behind one at 70", onward.next(), 2);
        // The lowest interval below 70 always stands behind one at 70 or more, so that no room
        // shows whether one at 39 bars the next.
        Tuneward forty = ahead(4, 0);
        told.same("40", forty.mastery(2), 40);
        told.same("at 40 next itself, 3 behind it not the lowest", forty.next(), 2);
        Tuneward less = ahead(5, 2);
        told.same("39", less.mastery(2), 39);
        told.same("at 39 next itself", less.next(), 2);
        Tuneward gap = practise(sing(withSong(0, 0, 2), 5000, 5000, 5200), 0, 10);
        told.same("1 at 20 is next, 3 behind 70 isn't the lowest", gap.next(), 1);
        told.same("all but the last", lastLeft().next(), 12);
        told.refused("none is left", MISSING, Rooms::mastered, Tuneward::next);
    }

    /** 0 and 1 stand at 70; 2 was sung well and badly so often. */
    private static Tuneward ahead(int good, int bad) {
        Tuneward room = withSong(0, 0, 1);
        addSong(room, 0, 2);
        practise(sing(room, 5000, 5000, 5100), 0, 10);
        return practised(room, 1, 2, good, bad);
    }

    private static Tuneward lastLeft() {
        Tuneward room = mastered();
        room.hush();
        return practise(sing(room, 5000, 6221), 4, 1);
    }

    private void choirs() {
        told.at("Choirs", "At most 8 singers");
        Tuneward room = empty();
        for (int i = 0; i < 8; i++) {
            told.same("number", room.seat(i, i), i);
        }
        told.refused("a ninth", STATE, () -> withSingers(8), one -> one.seat(0, 0));
        told.within(-99, 99, ARGUMENT, Rooms::rich, (one, off) -> one.seat(off, 5));
        told.within(0, 10, ARGUMENT, Rooms::rich, (one, pull) -> one.seat(5, pull));
        told.same("in a row", seated(0, 0, 9, 0, 1, 0).blend(), 17);
        told.at("Choirs", "The blend is the sum");
        told.same("none", empty().blend(), 0);
        told.same("one alone", seated(-99, 10).blend(), 0);
        told.same("two far apart", seated(-99, 10, 99, 0).blend(), 198);
        told.same("not the ends", seated(5, 1, 5, 1, 5, 1, 6, 1).blend(), 1);
        told.same("all eight", room.blend(), 7);
    }

    private static int offAfter(int steps, int singer, int... offsAndPulls) {
        Tuneward room = seated(offsAndPulls);
        room.choir(steps);
        return room.offOf(singer);
    }

    private void steps() {
        told.at("Choirs", "In a step each one moves");
        told.same("the mean, rounded down", offAfter(1, 1, -2, 0, 0, 10, -5, 0), -3);
        told.same("the mean above, rounded down", offAfter(1, 1, 2, 0, 0, 10, 5, 0), 0);
        told.same("cut towards 0 from below", offAfter(1, 0, 0, 3, -9, 0), -2);
        told.same("cut towards 0 from above", offAfter(1, 0, 0, 3, 9, 0), 0);
        told.same("19 twentieths are none", offAfter(1, 0, 0, 1, 19, 0), -1);
        told.same("20 twentieths", offAfter(1, 0, 0, 1, 20, 0), 0);
        told.same("-19 twentieths are none", offAfter(1, 0, 0, 1, -19, 0), -1);
        told.same("-20 twentieths", offAfter(1, 0, 0, 1, -20, 0), -2);
        told.same("a pull of 0", offAfter(1, 0, 0, 0, 99, 10), -1);
        told.same("a pull of 10", offAfter(1, 0, -99, 10, 99, 10), -1);
        told.same("by what was ahead", offAfter(1, 1, -99, 10, 99, 10), -1);
        told.same("the last has one beside", offAfter(1, 2, 0, 0, 50, 0, 10, 10), 29);
        told.same("the one in the middle has two", offAfter(1, 1, 0, 0, 50, 10, 11, 0), 27);
        told.same("one alone by none", offAfter(1, 0, 50, 10), 49);
        Tuneward alone = seated(-99, 10);
        for (int i = 0; i < 14; i++) {
            alone.choir(60);
        }
        alone.choir(59);
        told.same("at -998", alone.offOf(0), -998);
        alone.choir(1);
        told.same("at -999", alone.offOf(0), -999);
        alone.choir(1);
        told.same("not below -999", alone.offOf(0), -999);
        alone.choir(60);
        told.same("nor by many", alone.offOf(0), -999);
        alone.seat(99, 0);
        told.same("it rises again", alone.choir(1), -177);
        told.same("half of the way, and 1", alone.offOf(0), -451);
    }

    private void variants() {
        told.at("Variants", "The distance of two songs");
        Tuneward room = withSong(0, 2, 4, 5);
        addSong(room, 7, 9, 11, 12);
        addSong(room);
        addSong(room, 24);
        addSong(room, 0, 2, 4, 4);
        told.same("the same", room.distance(0, 0), 0);
        told.same("the same steps between", room.distance(0, 1), 0);
        told.same("all taken out", room.distance(0, 2), 3);
        told.same("all put in", room.distance(2, 0), 3);
        told.same("one note has none between", room.distance(3, 2), 0);
        told.same("all to one note", room.distance(0, 3), 3);
        told.same("one made another", room.distance(0, 4), 1);
        Tuneward more = withSong(0, 1, 3, 6);
        addSong(more, 0, 1, 6);
        addSong(more, 0, 1, 3, 6, 6);
        addSong(more, 6, 3, 1, 0);
        addSong(more, 0, 5, 10, 15, 20);
        told.same("one made another, one taken out", more.distance(0, 1), 2);
        told.same("one put in behind", more.distance(0, 2), 1);
        told.same("one taken out behind", more.distance(2, 0), 1);
        told.same("down is another than up", more.distance(0, 3), 3);
        told.same("nothing alike", more.distance(2, 4), 4);
        told.same("full", full().distance(0, 1), 15);
        Tuneward pairs = addSong(addSong(withSong(0, 2), 5, 7), 0, 4);
        told.same("the same step alone", pairs.distance(0, 1), 0);
        told.same("another step alone", pairs.distance(0, 2), 1);
        told.at("Variants", "The parent of a song");
        told.same("the only one", room.parent(1), 0);
        told.same("of like ones the latest", room.parent(2), 1);
        told.same("the nearest", room.parent(3), 2);
        told.same("the nearest, the latest, not itself", room.parent(4), 1);
        told.same("no later one", more.parent(1), 0);
        Tuneward between = addSong(addSong(withSong(0, 5, 9, 1), 0, 1, 3, 6), 0, 1, 9, 3);
        addSong(between, 2, 3, 5, 7);
        told.same("not one behind the nearest that is nearer than the first", between.parent(3), 1);
    }

    private void nothingChanges() {
        told.at("Exceptions", "A method that throws");
        told.refused("empty", INDEX, Rooms::empty, one -> one.startOf(0), one -> one.lengthOf(0),
                one -> one.pitchOf(0), one -> one.certaintyOf(0), one -> one.add(0, 0, 1),
                one -> one.sizeOf(0), one -> one.cost(0), one -> one.laidOn(0, 0),
                one -> one.keyOf(0, 0), one -> one.off(0, 0), one -> one.kindOf(0, 0),
                one -> one.drift(0), one -> one.lost(0), one -> one.lean(0, 0),
                one -> one.learn(0), one -> one.offOf(0), one -> one.swap(0, 0),
                one -> one.distance(0, 0), one -> one.parent(0), one -> one.share(0));
        told.refused("empty", MISSING, Rooms::empty, Tuneward::period, Tuneward::sung);
        told.refused("empty", UNSUPPORTED, Rooms::empty, one -> one.choir(1));
        told.refused("empty", ArithmeticException.class, Rooms::empty, Tuneward::meanPitch);
        told.refused("full", STATE, Rooms::full, one -> one.sample(5),
                one -> one.frame(5500, 50, 90), Tuneward::song, one -> one.add(4, 1, 1),
                one -> one.seat(1, 1));
        told.refused("the first number right", ARGUMENT, Rooms::rich,
                one -> one.frame(5000, 99, 100), one -> one.frame(5000, 100, 99),
                one -> one.add(0, 5, 17), one -> one.tuneStep(4, 1200), one -> one.range(5, 4),
                one -> one.range(5, 10000), one -> one.seat(5, 11));
        told.refused("the second number right", ARGUMENT, Rooms::rich,
                one -> one.frame(10000, 99, 99), one -> one.add(0, 25, 5),
                one -> one.tuneStep(12, 5), one -> one.range(-1, 9000), one -> one.seat(100, 5));
        told.refused("the first song or singer there", INDEX, Rooms::rich, one -> one.swap(1, 3),
                one -> one.distance(1, 3), one -> one.laidOn(1, 3));
        told.refused("a move half way", UNSUPPORTED, Rooms::rich, one -> one.move(-10),
                one -> one.move(1000));
    }

    private void firstListed() {
        told.at("Exceptions", "If several exceptions apply");
        told.refused("an argument ahead of what is full", ARGUMENT, Rooms::full,
                one -> one.sample(100), one -> one.frame(0, 0, 100), one -> one.add(0, 25, 1),
                one -> one.add(0, 0, 0), one -> one.seat(0, 11), one -> one.seat(-100, 0));
        told.refused("ahead of a pitch out of range", ARGUMENT, Rooms::rich,
                one -> one.move(2401), one -> one.move(-2401));
        told.refused("ahead of no singers", ARGUMENT, Rooms::empty, one -> one.choir(0),
                one -> one.choir(61));
        told.refused("no song ahead of an argument", INDEX, Rooms::rich, one -> one.add(3, 25, 1),
                one -> one.add(-1, 0, 0));
        told.refused("no song ahead of no notes", INDEX, () -> withSongs(1), one -> one.cost(1),
                one -> one.drift(-1), one -> one.lost(1), one -> one.learn(1),
                one -> one.share(1), one -> one.laidOn(1, 0), one -> one.keyOf(-1, 0));
        told.refused("no note ahead of an empty song", INDEX, Rooms::rich,
                one -> one.laidOn(1, 3), one -> one.keyOf(1, -1), one -> one.off(1, 3),
                one -> one.kindOf(1, -1), one -> one.lean(1, 3));
        told.refused("no note sung, an empty song", INDEX, () -> withSongs(1),
                one -> one.laidOn(0, 0), one -> one.keyOf(0, 0), one -> one.off(0, 0),
                one -> one.kindOf(0, 0), one -> one.lean(0, 0));
        told.refused("an empty song ahead of laid on none", UNSUPPORTED, Rooms::rich,
                one -> one.keyOf(1, 1), one -> one.off(1, 1), one -> one.lean(1, 1));
        told.refused("no song ahead of learnt", INDEX, Rooms::rich, one -> one.learn(3));
        told.refused("an empty song ahead of learnt", UNSUPPORTED, Rooms::rich,
                one -> one.learn(1));
        told.refused("no notes ahead of learnt", UNSUPPORTED, OtherSentences::hushed,
                one -> one.learn(0));
        told.refused("no song ahead of the first", INDEX, Rooms::empty, one -> one.parent(0));
    }

    private static Tuneward hushed() {
        Tuneward room = rich();
        room.hush();
        return room;
    }
}
