/** Promises 27 to 43: the voice, lessons, the choir, variants and the room as a whole. */
final class OtherPromises extends Rooms {
    private final Sentences told;

    OtherPromises(Sentences told) {
        this.told = told;
    }

    void go() {
        range();
        tired();
        rest();
        learn();
        learnAgain();
        mastery();
        next();
        seat();
        choir();
        offOf();
        swap();
        blend();
        distance();
        parent();
        share();
        meanPitch();
        checksum();
        isTrue();
    }

    private static Tuneward songless() {
        return addSong(sing(empty(), 6000, 6200));
    }

    private static Tuneward unsung() {
        return raw(withSong(0, 2), 6000, 6000);
    }

    private void range() {
        told.at(27, "Tells the range of the voice");
        Tuneward room = sing(withSong(0), 6000);
        room.range(6000, 6000);
        told.same("the only pitch", room.kindOf(0, 0), 'o');
        room.range(6001, 9999);
        told.same("too low", room.kindOf(0, 0), 'r');
        room.range(0, 5999);
        told.same("too high", room.kindOf(0, 0), 'r');
        told.at(27, "`low`");
        told.within(0, 9999, ARGUMENT, Rooms::rich, (one, low) -> one.range(low, 9999));
        told.at(27, "`high`");
        told.within(0, 9999, ARGUMENT, Rooms::rich, (one, high) -> one.range(0, high));
        told.within(5000, 9999, ARGUMENT, Rooms::rich, (one, high) -> one.range(5000, high));
        told.same("not less than the highest", empty().range(9999, 9999), 4800);
        told.at(27, "Returns the lowest pitch before");
        told.same("at first", empty().range(0, 0), 4800);
        told.same("then", rich().range(0, 0), 5990);
        told.at(27, "Throws");
        told.refused("out of range", ARGUMENT, Rooms::rich, one -> one.range(-1, 5),
                one -> one.range(0, 10000), one -> one.range(6000, 5999),
                one -> one.range(10000, 10000), one -> one.range(0, -1),
                one -> one.range(-1, -1));
    }

    private void tired() {
        told.at(28, "Returns how tired");
        told.same("by nine frames", rich().tired(), 9);
        told.at(28, "Returns how much");
        told.same("not at all", empty().tired(), 0);
        told.same("less than the most", full().tired(), 240);
        told.same("the most", loud().tired(), 300);
        Tuneward asked = loud();
        asked.tired();
        told.same("asked twice", asked.tired(), 300);
    }

    private static Tuneward loud() {
        Tuneward room = empty();
        for (int i = 0; i < 120; i++) {
            room.frame(0, 99, 99);
        }
        return room;
    }

    private void rest() {
        told.at(29, "Lets days of rest");
        Tuneward room = loud();
        room.rest(2);
        told.same("two days", room.tired(), 180);
        told.at(29, "`days`");
        told.within(1, 99, ARGUMENT, OtherPromises::loud, Tuneward::rest);
        told.at(29, "Returns how tired");
        told.same("a day", loud().rest(1), 240);
        told.same("four", loud().rest(4), 60);
        told.same("five, to none", loud().rest(5), 0);
        told.same("six, no less than none", loud().rest(6), 0);
        told.same("99", loud().rest(99), 0);
        told.same("not tired at all", empty().rest(1), 0);
        told.at(29, "Throws");
        told.refused("out of range", ARGUMENT, OtherPromises::loud, one -> one.rest(0),
                one -> one.rest(100), one -> one.rest(-1));
    }

    private void learn() {
        told.at(30, "Learns by a song");
        Tuneward room = sing(withSong(0, 2), 6000, 6200);
        told.same("once", room.learn(0), 1);
        told.same("learnt", room.mastery(2), 25);
        room.frame(0, 0, 0);
        told.same("once more since a frame", room.learn(0), 1);
        room.move(0);
        told.same("once more since a move", room.learn(0), 1);
        room.move(0);
        room.frame(0, 0, 0);
        room.learn(0);
        told.same("once since both", Checks.outcome(() -> room.learn(0)),
                "IllegalStateException");
        told.at(30, "`song`");
        told.same("the last one", sing(addSong(withSongs(4), 0, 2), 6000, 6200).learn(4), 1);
        told.refused("no such", INDEX, Rooms::rich, one -> one.learn(3), one -> one.learn(-1));
        told.at(30, "Returns how many masteries");
        told.same("one alone", sing(withSong(0), 6000).learn(0), 0);
        told.same("one twice", sing(withSong(0, 2, 4), 6000, 6200, 6400).learn(0), 2);
        told.same("up and down", sing(withSong(0, 2, 4), 6000, 6200, 6421).learn(0), 2);
        told.same("sixteen notes", scale().learn(0), 15);
        Tuneward high = practise(sing(withSong(0, 2), 6000, 6200), 0, 15);
        high.move(0);
        told.same("95 becomes 99", high.learn(0), 1);
        high.move(0);
        told.same("99 stays", high.learn(0), 0);
        Tuneward low = practise(sing(withSong(0, 2), 6000, 6221), 0, 6);
        low.move(0);
        told.same("2 becomes 0", low.learn(0), 1);
        low.move(0);
        told.same("0 stays", low.learn(0), 0);
        told.at(30, "Throws `IndexOutOfBoundsException`");
        told.refused("no song", INDEX, () -> sing(empty(), 6000), one -> one.learn(0));
        told.at(30, "Throws `UnsupportedOperationException`");
        told.refused("no notes sung", UNSUPPORTED, OtherPromises::unsung, one -> one.learn(0));
        told.refused("none in the song", UNSUPPORTED, OtherPromises::songless,
                one -> one.learn(0));
        told.refused("ahead of learnt", UNSUPPORTED, Rooms::rich, one -> one.learn(1));
    }

    private static Tuneward scale() {
        Tuneward room = empty();
        room.song();
        for (int i = 0; i < 16; i++) {
            room.add(0, i, 1);
            sing(room, 5000 + 100 * i);
        }
        return room;
    }

    private void learnAgain() {
        told.at(30, "Throws `IllegalStateException`");
        told.refused("by the same song", STATE, Rooms::rich, one -> one.learn(0));
        told.refused("by another one", STATE, Rooms::rich, one -> one.learn(2));
        told.refused("where nothing was learnt", STATE,
                () -> practise(sing(withSong(0), 6000), 0, 1), one -> one.learn(0));
        told.refused("since a frame that is refused", STATE,
                () -> after(one -> one.frame(0, 0, -1)), one -> one.learn(0));
        told.refused("since a move that is refused", STATE, () -> after(one -> one.move(-10)),
                one -> one.learn(0));
        told.refused("since a song's note", STATE, () -> after(one -> one.add(0, 5, 5)),
                one -> one.learn(0));
        told.refused("since a tuning", STATE, () -> after(one -> one.tune('e')),
                one -> one.learn(0));
        told.refused("since a rest", STATE, () -> after(one -> one.rest(1)), one -> one.learn(0));
        told.refused("since a sample", STATE, () -> after(one -> one.sample(1)),
                one -> one.learn(0));
        told.refused("since a song that is refused", STATE, () -> after(one -> one.learn(1)),
                one -> one.learn(0));
        Tuneward refused = after(one -> one.hush());
        sing(refused, 6000, 6204);
        told.same("not since notes are sung anew", Checks.outcome(() -> refused.learn(0)), 1);
    }

    private static Tuneward after(Sentences.Asking call) {
        Tuneward room = rich();
        Checks.outcome(() -> call.of(room));
        return room;
    }

    private void mastery() {
        told.at(31, "Returns the mastery of an interval");
        told.same("learnt", rich().mastery(4), 25);
        told.at(31, "`interval`");
        told.within(0, 12, ARGUMENT, Rooms::rich, Tuneward::mastery);
        told.at(31, "Returns the mastery.");
        told.same("the first", empty().mastery(0), 20);
        told.same("the last", empty().mastery(12), 20);
        told.same("the highest", practise(sing(withSong(0, 12), 5000, 6200), 0, 20).mastery(12),
                99);
        told.same("the lowest", practise(sing(withSong(0, 0), 5000, 5021), 0, 20).mastery(0), 0);
        told.at(31, "Throws");
        told.refused("out of range", ARGUMENT, Rooms::rich, one -> one.mastery(-1),
                one -> one.mastery(13));
    }

    private void next() {
        told.at(32, "Returns the interval that is next");
        told.same("at first", empty().next(), 0);
        told.at(32, "Returns the interval.");
        told.same("at 65", practise(sing(withSong(0, 0), 5000, 5000), 0, 9).next(), 0);
        told.same("at 70", practise(sing(withSong(0, 0), 5000, 5000), 0, 10).next(), 1);
        told.same("unchanged by asking", rich().next(), 0);
        Tuneward last = mastered();
        last.hush();
        practise(sing(last, 5000, 6221), 4, 1);
        told.same("the last", last.next(), 12);
        told.at(32, "Throws");
        told.refused("all are at 70", MISSING, Rooms::mastered, Tuneward::next);
    }

    private void seat() {
        told.at(33, "Seats a singer behind");
        Tuneward room = withSingers(2);
        room.seat(5, 0);
        told.same("behind", room.offOf(2), 5);
        told.same("the others stay", room.offOf(1), -50);
        told.at(33, "`off`");
        told.within(-99, 99, ARGUMENT, Rooms::rich, (one, off) -> one.seat(off, 5));
        told.at(33, "`pull`");
        told.within(0, 10, ARGUMENT, Rooms::rich, (one, pull) -> one.seat(5, pull));
        told.at(33, "Returns their number");
        for (int many = 0; many < 8; many++) {
            told.same("behind " + many, withSingers(many).seat(99, 10), many);
        }
        told.at(33, "Throws `IllegalArgumentException`");
        told.refused("out of range", ARGUMENT, Rooms::rich, one -> one.seat(-100, 5),
                one -> one.seat(100, 5), one -> one.seat(5, -1), one -> one.seat(5, 11));
        told.refused("ahead of 8", ARGUMENT, Rooms::full, one -> one.seat(-100, 5),
                one -> one.seat(5, 11));
        told.at(33, "Throws `IllegalStateException`");
        told.refused("eight", STATE, () -> withSingers(8), one -> one.seat(0, 0),
                one -> one.seat(-99, 10));
    }

    private void choir() {
        told.at(34, "Lets a choir sing steps");
        Tuneward once = seated(0, 10, 20, 10);
        Tuneward twice = seated(0, 10, 20, 10);
        once.choir(1);
        once.choir(1);
        twice.choir(2);
        told.same("two are one and one", twice.offOf(0), once.offOf(0));
        told.same("both sink", twice.offOf(1), 8);
        told.at(34, "`steps`");
        told.within(1, 60, ARGUMENT, Rooms::rich, Tuneward::choir);
        told.at(34, "Returns the mean");
        told.same("one alone", seated(0, 10).choir(60), -60);
        told.same("rounded down below 0", seated(0, 0, 1, 0).choir(1), -1);
        told.same("rounded down above 0", seated(5, 0, 6, 0).choir(1), 4);
        told.same("a third", seated(0, 0, 0, 0, -1, 0).choir(1), -2);
        told.same("two thirds", seated(2, 0, 2, 0, 1, 0).choir(1), 0);
        told.same("of eight, 15 less in all", withSingers(8).choir(1), -2);
        told.at(34, "Throws `IllegalArgumentException`");
        told.refused("out of range", ARGUMENT, Rooms::rich, one -> one.choir(0),
                one -> one.choir(61), one -> one.choir(-1));
        told.refused("ahead of no singers", ARGUMENT, Rooms::empty, one -> one.choir(0));
        told.at(34, "Throws `UnsupportedOperationException`");
        told.refused("no singers", UNSUPPORTED, Rooms::empty, one -> one.choir(1),
                one -> one.choir(60));
    }

    private void offOf() {
        told.at(35, "Returns by how much a singer is off");
        told.same("the second", rich().offOf(1), -50);
        told.at(35, "`singer`");
        told.within(0, 2, INDEX, Rooms::rich, Tuneward::offOf);
        told.at(35, "Returns the cents");
        told.same("the lowest seated", seated(-99, 0).offOf(0), -99);
        told.same("the highest", seated(99, 0).offOf(0), 99);
        told.same("the eighth", full().offOf(7), 70);
        told.at(35, "Throws");
        told.refused("no singers", INDEX, Rooms::empty, one -> one.offOf(0));
        told.refused("eight", INDEX, Rooms::full, one -> one.offOf(8));
    }

    private void swap() {
        told.at(36, "Lets two singers change seats");
        Tuneward room = seated(1, 0, 2, 0, 4, 10, 8, 0);
        room.swap(0, 2);
        told.same("the first seat", room.offOf(0), 4);
        told.same("the third seat", room.offOf(2), 1);
        told.same("none between", room.offOf(1), 2);
        room.choir(1);
        // 10 times 2 less 4 are -20, a twentieth of which is -1.
        told.same("the pull went along", room.offOf(0), 2);
        told.same("its seat has none", room.offOf(2), 0);
        told.at(36, "`singer`");
        told.within(0, 2, INDEX, Rooms::rich, (one, singer) -> one.swap(singer, 1));
        told.at(36, "`other`");
        told.within(0, 2, INDEX, Rooms::rich, (one, other) -> one.swap(1, other));
        told.same("the same", rich().swap(1, 1), rich().blend());
        Tuneward same = rich();
        same.swap(2, 2);
        told.same("the same stays", same.offOf(2), 7);
        told.same("one alone", seated(5, 5).swap(0, 0), 0);
        told.at(36, "Returns the blend then");
        told.same("ends change", seated(0, 0, 10, 0, 50, 0).swap(0, 2), 50);
        told.same("one beside", seated(0, 0, 10, 0, 50, 0).swap(1, 2), 90);
        told.same("the first and the eighth", full().swap(0, 7), 120 + 100 + 120);
        told.at(36, "Throws");
        told.refused("no singers", INDEX, Rooms::empty, one -> one.swap(0, 0));
        told.refused("either", INDEX, Rooms::full, one -> one.swap(8, 0), one -> one.swap(0, 8),
                one -> one.swap(-1, 0), one -> one.swap(0, -1), one -> one.swap(8, 8),
                one -> one.swap(-1, -1));
    }

    private void blend() {
        told.at(37, "Returns the blend");
        told.same("no singers", empty().blend(), 0);
        told.same("one alone", seated(99, 0).blend(), 0);
        told.same("two", seated(-99, 0, 99, 0).blend(), 198);
        told.same("eight", full().blend(), 140);
        told.same("the most", seated(-99, 0, 99, 0, -99, 0, 99, 0, -99, 0, 99, 0, -99, 0, 99, 0)
                .blend(), 1386);
    }

    private void distance() {
        told.at(38, "Returns the distance of two songs");
        told.same("three notes and one", rich().distance(0, 2), 2);
        told.at(38, "`song`");
        told.within(0, 2, INDEX, Rooms::rich, (one, song) -> one.distance(song, 0));
        told.at(38, "`other`");
        told.within(0, 2, INDEX, Rooms::rich, (one, other) -> one.distance(0, other));
        told.same("the same", full().distance(4, 4), 0);
        told.same("the same, empty", withSongs(1).distance(0, 0), 0);
        told.at(38, "Returns the distance.");
        told.same("two empty ones", withSongs(2).distance(0, 1), 0);
        told.same("the most", full().distance(1, 3), 15);
        told.same("a full one to an empty one",
                addSong(withSong(new int[16])).distance(0, 1), 15);
        told.same("the other way round", addSong(withSong(new int[16])).distance(1, 0), 15);
        told.at(38, "Throws");
        told.refused("no songs", INDEX, Rooms::empty, one -> one.distance(0, 0));
        told.refused("either", INDEX, Rooms::full, one -> one.distance(5, 0),
                one -> one.distance(0, 5), one -> one.distance(-1, 0),
                one -> one.distance(0, -1), one -> one.distance(5, 5));
    }

    private void parent() {
        told.at(39, "Returns the parent of a song");
        Tuneward room = addSong(addSong(addSong(withSong(0, 1, 3), 0, 5, 5), 2, 3, 6), 2, 3, 5);
        told.same("the nearest", room.parent(3), 0);
        told.at(39, "`song`");
        told.same("the second", withSongs(2).parent(1), 0);
        told.same("the fifth", withSongs(5).parent(4), 3);
        told.refused("no such", INDEX, () -> withSongs(2), one -> one.parent(-1),
                one -> one.parent(2), one -> one.parent(Integer.MAX_VALUE));
        told.at(39, "Returns the parent.");
        told.same("of like ones the latest", room.parent(2), 0);
        told.same("of empty ones the latest", withSongs(3).parent(2), 1);
        told.at(39, "Throws `IndexOutOfBoundsException`");
        told.refused("no songs", INDEX, Rooms::empty, one -> one.parent(0), one -> one.parent(1));
        told.refused("five", INDEX, Rooms::full, one -> one.parent(5));
        told.at(39, "Throws `NoSuchElementException`");
        told.refused("the first", MISSING, Rooms::full, one -> one.parent(0));
        told.refused("the only one", MISSING, () -> withSongs(1), one -> one.parent(0));
    }

    private void share() {
        told.at(40, "Returns the share of notes");
        told.same("one of three", rich().share(0), 1f / 3f);
        told.at(40, "`song`");
        told.same("the last one", rich().share(2), 1f / 3f);
        told.refused("no such", INDEX, Rooms::rich, one -> one.share(3), one -> one.share(-1));
        told.at(40, "Returns how many have");
        told.same("all", scale().share(0), 1f);
        told.same("none", sing(withSong(0), 7201).share(0), 0f);
        told.same("the one alone", sing(withSong(0), 7200).share(0), 1f);
        told.same("those on none too", sing(withSong(0), 6000, 6900, 6900).share(0), 1f / 3f);
        told.same("converted to float", sing(withSong(0, 2, 4, 5, 7, 9, 11), 5000, 5200, 5400, 5500,
                5700, 9000, 9900).share(0), (float) 5 / (float) 7);
        told.same("a float", sing(withSong(0), 6000).share(0), Float.valueOf(1));
        told.at(40, "Throws `IndexOutOfBoundsException`");
        told.refused("no song", INDEX, () -> sing(empty(), 6000), one -> one.share(0));
        told.at(40, "Throws `UnsupportedOperationException`");
        told.refused("no notes sung", UNSUPPORTED, OtherPromises::unsung, one -> one.share(0));
        told.refused("none in the song", UNSUPPORTED, OtherPromises::songless,
                one -> one.share(0));
        told.refused("neither", UNSUPPORTED, () -> withSongs(1), one -> one.share(0));
    }

    private void meanPitch() {
        told.at(41, "Returns the mean pitch");
        told.same("three", rich().meanPitch(), (double) 21425 / (double) 3);
        told.at(41, "Returns the sum");
        told.same("one", sing(empty(), 6001).meanPitch(), 6001.0);
        told.same("a half", sing(empty(), 6001, 6200).meanPitch(), 6100.5);
        told.same("the lowest", sing(empty(), 0).meanPitch(), 0.0);
        told.same("the highest", sing(empty(), 9999).meanPitch(), 9999.0);
        told.same("the first sixteen of seventeen", full().meanPitch(), 6250.0);
        told.at(41, "Throws");
        told.refused("none", ArithmeticException.class, Rooms::empty, Tuneward::meanPitch);
        told.refused("a slide", ArithmeticException.class, OtherPromises::unsung,
                Tuneward::meanPitch);
    }

    private static long summed(int... numbers) {
        long sum = 7;
        for (int number : numbers) {
            sum = 31 * sum + number;
        }
        return sum;
    }

    private void checksum() {
        told.at(42, "Returns a sum over the room");
        told.same("changes nothing", empty().checksum(), empty().checksum());
        told.at(42, "Returns 7 at first");
        told.same("empty", empty().checksum(),
                summed(20, 20, 20, 20, 20, 20, 20, 20, 20, 20, 20, 20, 20, 0));
        told.same("rich", rich().checksum(), summed(6000, 3, 9000, 3, 6425, 3, 3, 0, 1,
                20, 20, 20, 20, 25, 20, 20, 20, 20, 20, 20, 20, 20, 5, -50, 7, 9));
        Tuneward low = seated(-99, 0, 99, 0);
        for (int i = 0; i < 15; i++) {
            low.choir(60);
        }
        told.same("below 0", low.checksum(), summed(20, 20, 20, 20, 20, 20, 20, 20, 20, 20, 20, 20,
                20, -999, -801, 0));
        long sum = 7;
        for (int i = 0; i < 16; i++) {
            sum = 31 * (31 * sum + 5500 + 100 * i) + 7;
        }
        for (int i = 0; i < 5; i++) {
            sum = 31 * sum + 16;
        }
        for (int i = 0; i < 13; i++) {
            sum = 31 * sum + 20;
        }
        for (int i = 0; i < 8; i++) {
            sum = 31 * sum + 20 * i - 70;
        }
        told.same("full, with its wrap around", full().checksum(), 31 * sum + 240);
    }

    private void isTrue() {
        told.at(43, "Checks that no path");
        told.same("empty", empty().isTrue(), true);
        told.same("rich", rich().isTrue(), true);
        told.same("full", full().isTrue(), true);
        told.same("mastered", mastered().isTrue(), true);
        told.same("no notes", unsung().isTrue(), true);
        told.same("no song's notes", songless().isTrue(), true);
        // A tune at the upper end costs the same when it is moved, though it could not be.
        told.same("the highest", sing(withSong(0, 2), 9999, 9999).isTrue(), true);
        told.same("a key found behind the first note",
                sing(withSong(0, 2, 4, 5), 6100, 6000, 6200, 6400, 6500).isTrue(), true);
        told.same("laid on none, where on one it would cost 74",
                sing(withSong(0, 2), 6000, 6900).isTrue(), true);
        told.same("a longer note right behind a shorter one", raw(withSong(0, 1), 5000, 5000,
                5000, 5100, 5100, 5100, 5100, 5100, 5100, 5100).isTrue(), true);
        told.same("the lowest", sing(withSong(24, 0), 0, 0).isTrue(), true);
        told.same("masteries at 99",
                practise(sing(withSong(0, 2), 6000, 6200), 0, 20).isTrue(), true);
        told.same("masteries at 0",
                practise(sing(withSong(0, 2), 6000, 6221), 0, 20).isTrue(), true);
        told.at(43, "Returns whether all of it holds");
        Tuneward room = rich();
        long before = room.checksum();
        told.same("asked", room.isTrue(), true);
        told.same("changes nothing", room.checksum(), before);
        told.same("nothing kept to itself", Probe.of(room), Probe.of(rich()));
    }
}
