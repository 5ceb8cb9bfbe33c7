import java.io.IOException;
import java.nio.file.Files;
import java.nio.file.Path;
import java.util.LinkedHashMap;
import java.util.LinkedHashSet;
import java.util.List;
import java.util.Map;
import java.util.Set;

/**
 * The sentences of the document. Each check stands under the sentence it is for; at the end a
 * sentence without a check counts as a fault.
 */
final class Sentences {
    interface Making {
        Tuneward room();
    }

    interface Asking {
        Object of(Tuneward room);
    }

    interface AskingWith {
        Object of(Tuneward room, int number);
    }

    private static final Path DOCUMENT = Path.of("../shared/DOC.md");

    private final Checks checks = new Checks("SentenceTests");
    private final Map<String, Set<String>> parts = new LinkedHashMap<>();
    private final Map<String, Integer> counts = new LinkedHashMap<>();
    private final boolean known;
    private String now = "";
    private String begun = "";

    Sentences() throws IOException {
        known = Files.exists(DOCUMENT);
        if (known) {
            read(Files.readAllLines(DOCUMENT));
        } else {
            System.out.println("SentenceTests: no document there; its sentences aren't looked up");
        }
    }

    private void read(List<String> lines) {
        String part = "";
        for (String line : lines) {
            if (line.startsWith("## ")) {
                part = line.substring(3).replaceFirst("^(Promise \\d+):.*", "$1");
            } else if (part.equals("Terms") && !line.isEmpty()) {
                String[] told = line.split("\\. ", 2);
                for (String sentence : told[1].split("(?<=\\.) (?=[A-Z])")) {
                    keep(told[0], sentence);
                }
            } else if (part.startsWith("Promise ") || part.equals("What it is")) {
                String told = line.replaceFirst("^- ", "");
                keep(part, told.replaceFirst("^`.*\\)( throws .*)?`: ", ""));
            }
        }
    }

    private void keep(String part, String sentence) {
        if (!sentence.isEmpty()) {
            parts.computeIfAbsent(part, name -> new LinkedHashSet<>()).add(sentence);
            counts.put(part + ": " + sentence, 0);
        }
    }

    /** What is checked from here on is for the sentence of this promise with this beginning. */
    void at(int promise, String beginning) {
        at("Promise " + promise, beginning);
    }

    void at(String part, String beginning) {
        begun = part + ": " + beginning;
        now = begun;
        if (!known) {
            return;
        }
        int found = 0;
        for (String sentence : parts.getOrDefault(part, Set.of())) {
            if (sentence.startsWith(beginning)) {
                found++;
                now = part + ": " + sentence;
            }
        }
        checks.same("sentences that begin with " + begun, found, 1);
    }

    void same(String what, Object got, Object want) {
        counts.merge(now, 1, Integer::sum);
        checks.same(begun + ".. - " + what, got, want);
    }

    void holds(String what, boolean holds) {
        same(what, holds, true);
    }

    /** Each call throws this, and leaves the room as one in which it was not called. */
    void refused(String what, Class<? extends RuntimeException> want, Making making,
            Asking... calls) {
        String before = Probe.of(making.room());
        for (int i = 0; i < calls.length; i++) {
            Asking call = calls[i];
            Tuneward room = making.room();
            same(what + ", call " + i, Checks.outcome(() -> call.of(room)), want.getSimpleName());
            same(what + ", call " + i + " changes nothing", Probe.of(room), before);
        }
    }

    /** The call takes both numbers and throws this beyond them, changing nothing. */
    void within(int low, int high, Class<? extends RuntimeException> want, Making making,
            AskingWith call) {
        for (int number : new int[] {low, high}) {
            Object answer = Checks.outcome(() -> call.of(making.room(), number));
            holds(number + " is in range, not " + answer,
                    !String.valueOf(answer).endsWith("Exception"));
        }
        int[] beyond = {low - 1, high + 1, Integer.MIN_VALUE, Integer.MAX_VALUE};
        for (int number : beyond) {
            refused(number + " is out of range", want, making, room -> call.of(room, number));
        }
    }

    void end() {
        for (Map.Entry<String, Integer> one : counts.entrySet()) {
            checks.holds("no check for: " + one.getKey(), one.getValue() > 0);
        }
        checks.end();
    }
}
