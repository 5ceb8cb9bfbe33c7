/**
 * All that a room tells, in one text: first what it answers, then what it keeps to itself, drawn
 * out by calls that change it. The room is of no use any more then.
 */
final class Probe {
    private static final int SONGS = 5;
    private static final int NOTES = 16;
    private static final int SINGERS = 8;

    private final StringBuilder text = new StringBuilder();
    private final Tuneward room;

    private Probe(Tuneward room) {
        this.room = room;
    }

    static String of(Tuneward room) {
        Probe probe = new Probe(room);
        probe.askWhole();
        probe.askNotes();
        probe.askSongs();
        probe.askLaid();
        probe.askSteps();
        probe.drawOut();
        return probe.text.toString();
    }

    private void ask(String name, Checks.Call call) {
        text.append(name).append(' ').append(Checks.outcome(call)).append('\n');
    }

    private void askWhole() {
        ask("notes", () -> room.notes());
        ask("sung", () -> room.sung());
        ask("tired", () -> room.tired());
        ask("next", () -> room.next());
        ask("blend", () -> room.blend());
        ask("meanPitch", () -> room.meanPitch());
        ask("checksum", () -> room.checksum());
        ask("isTrue", () -> room.isTrue());
    }

    private void askNotes() {
        for (int i = 0; i < NOTES; i++) {
            int note = i;
            ask("start", () -> room.startOf(note));
            ask("length", () -> room.lengthOf(note));
            ask("pitch", () -> room.pitchOf(note));
            ask("certainty", () -> room.certaintyOf(note));
        }
    }

    private void askSongs() {
        for (int i = 0; i < SONGS; i++) {
            int song = i;
            ask("size", () -> room.sizeOf(song));
            ask("cost", () -> room.cost(song));
            ask("drift", () -> room.drift(song));
            ask("lost", () -> room.lost(song));
            ask("share", () -> room.share(song));
            ask("parent", () -> room.parent(song));
            ask("distance", () -> room.distance(song, 0));
        }
    }

    private void askLaid() {
        for (int i = 0; i < 8; i++) {
            int song = i % 2;
            int note = i / 2;
            ask("laid", () -> room.laidOn(song, note));
            ask("key", () -> room.keyOf(song, note));
            ask("off", () -> room.off(song, note));
            ask("kind", () -> room.kindOf(song, note));
            ask("lean", () -> room.lean(song, note));
        }
    }

    private void askSteps() {
        for (int i = 0; i < 12; i++) {
            int step = i;
            ask("cents", () -> room.centsOf(step));
        }
        for (int i = 0; i < 13; i++) {
            int interval = i;
            ask("mastery", () -> room.mastery(interval));
        }
    }

    private void drawOut() {
        ask("learn", () -> room.learn(0));
        ask("seats", () -> room.swap(0, 1));
        ask("pulls", () -> room.choir(3));
        for (int i = 0; i < SINGERS; i++) {
            int singer = i;
            ask("off", () -> room.offOf(singer));
        }
        ask("low", () -> room.range(0, 9999));
        ask("tuning", () -> room.tune('e'));
        ask("sample", () -> room.sample(17));
        ask("period", () -> room.period());
        ask("song", () -> room.song());
        ask("add", () -> room.add(0, 3, 3));
        ask("frame", () -> room.frame(5000, 50, 50));
        ask("tired", () -> room.tired());
        ask("seat", () -> room.seat(1, 1));
        ask("rest", () -> room.rest(1));
        ask("move", () -> room.move(7));
        ask("moved", () -> room.checksum());
        ask("hush", () -> room.hush());
    }
}
