import java.lang.reflect.InvocationTargetException;
import java.lang.reflect.Method;
import java.util.ArrayList;
import java.util.Arrays;
import java.util.HashMap;
import java.util.List;
import java.util.Map;

/** Long runs of calls on Tuneward and on PlainRoom, answer by answer. */
public final class RandomRunsTests {
    private static final int RUNS = 400;
    private static final int CALLS = 512;
    private static final Checks CHECKS = new Checks("RandomRunsTests");
    private static final Map<String, Method> FAST = methods(Tuneward.class);
    private static final Map<String, Method> PLAIN = methods(PlainRoom.class);
    private static final List<String> NAMES = names();

    private final Numbers numbers;
    private final Tuneward fast = new Tuneward();
    private final PlainRoom plain = new PlainRoom();
    private final List<String> told = new ArrayList<>();
    private boolean wrong = false;

    private RandomRunsTests(int seed) {
        numbers = new Numbers(seed);
    }

    public static void main(String[] args) {
        for (int run = 1; run <= RUNS; run++) {
            RandomRunsTests one = new RandomRunsTests(run);
            int kind = run % 5;
            while (one.told.size() < CALLS && !one.wrong) {
                one.go(kind);
            }
            if (one.wrong) {
                System.out.println("run " + run + ": " + one.told);
            }
        }
        CHECKS.end();
    }

    private static Map<String, Method> methods(Class<?> from) {
        Map<String, Method> all = new HashMap<>();
        for (Method method : from.getDeclaredMethods()) {
            if (java.lang.reflect.Modifier.isPublic(method.getModifiers())) {
                all.put(method.getName(), method);
            }
        }
        return all;
    }

    private static List<String> names() {
        List<String> names = new ArrayList<>(FAST.keySet());
        names.sort(null);
        return names;
    }

    private void call(String name, Object... given) {
        if (wrong || told.size() >= CALLS) {
            return;
        }
        told.add(name + Arrays.toString(given));
        Object got = answer(FAST.get(name), fast, given);
        Object want = answer(PLAIN.get(name), plain, given);
        wrong = !want.equals(got);
        CHECKS.same(told.size() + ". " + name + Arrays.toString(given), got, want);
    }

    private static Object answer(Method method, Object room, Object[] given) {
        try {
            return method.invoke(room, given);
        } catch (InvocationTargetException e) {
            return e.getCause().getClass().getName();
        } catch (IllegalAccessException e) {
            throw new AssertionError(e);
        }
    }

    private void go(int kind) {
        switch (kind) {
            case 0: anyCall(); break;
            case 1: lesson(); break;
            case 2: listening(); break;
            case 3: singing(); break;
            default:
                if (numbers.onceIn(4)) {
                    lesson();
                } else {
                    for (int i = 0; i < 12; i++) {
                        anyCall();
                    }
                }
        }
    }

    private void anyCall() {
        String name = NAMES.get(numbers.upTo(NAMES.size() - 1));
        Class<?>[] types = FAST.get(name).getParameterTypes();
        if (name.equals("frame") && !numbers.onceIn(10)) {
            phrase(numbers.oneOf(4800, 5000, 6000, 7200), numbers.between(1, 9), 0);
            return;
        }
        if (name.equals("tune")) {
            call(name, (char) numbers.oneOf('e', 'j', 'p', 'x', 0, 'E', 200));
            return;
        }
        Object[] given = new Object[types.length];
        for (int i = 0; i < given.length; i++) {
            given[i] = number(name, i);
        }
        call(name, given);
    }

    private int number(String name, int at) {
        if (numbers.onceIn(40)) {
            return numbers.oneOf(-1, Integer.MIN_VALUE, Integer.MAX_VALUE, 9999, 10000, 100, -100);
        }
        switch (name + at) {
            case "sample0": return numbers.between(-100, 100);
            case "move0": return numbers.oneOf(-2401, -2400, -25, 0, 25, 100, 2400, 2401);
            case "add1": return numbers.between(-1, 25);
            case "add2": return numbers.between(0, 17);
            case "tuneStep0": return numbers.between(-1, 12);
            case "tuneStep1": return numbers.between(-1, 1200);
            case "centsOf0": return numbers.between(-1, 25);
            case "range0": return numbers.between(4000, 6000);
            case "range1": return numbers.between(5000, 8000);
            case "rest0": return numbers.between(0, 3);
            case "mastery0": return numbers.between(-1, 13);
            case "seat0": return numbers.between(-100, 100);
            case "seat1": return numbers.between(-1, 11);
            case "choir0": return numbers.between(0, 61);
            case "offOf0": case "swap0": case "swap1": return numbers.between(-1, 8);
            case "laidOn1": case "keyOf1": case "off1": case "kindOf1": case "lean1":
            case "startOf0": case "lengthOf0": case "pitchOf0": case "certaintyOf0":
                return numbers.between(-1, numbers.oneOf(2, 5, 16));
            case "frame0": return numbers.between(-1, 10000);
            case "frame1": case "frame2": return numbers.between(-1, 100);
            default: return numbers.between(-1, numbers.oneOf(0, 2, 5));
        }
    }

    /** Songs, a tune that follows one of them more or less, and all that can be asked of it. */
    private void lesson() {
        int songs = numbers.between(1, 5);
        int[][] steps = new int[songs][];
        if (numbers.onceIn(3)) {
            call("tune", (char) numbers.oneOf('e', 'j', 'p'));
        }
        for (int s = 0; s < songs; s++) {
            call("song");
            steps[s] = new int[numbers.oneOf(0, 1, 2, 3, 4, 6, 8, numbers.between(9, 17))];
            int step = numbers.upTo(24);
            for (int i = 0; i < steps[s].length; i++) {
                steps[s][i] = step;
                call("add", s, step, numbers.oneOf(1, 1, 2, 4, 16));
                step = Math.max(0, Math.min(24, step + numbers.oneOf(-7, -5, -2, -1, 0, 1, 2, 4, 5, 12)));
            }
        }
        for (int round = 0; round < 4; round++) {
            call("hush");
            follow(steps[numbers.upTo(songs - 1)]);
            askAll(numbers.upTo(songs - 1));
        }
    }

    private void follow(int[] steps) {
        int base = numbers.oneOf(4700, 5000, 5500, 6000, 6100);
        int key = 0;
        int rough = numbers.oneOf(0, 9, 20, 29, 60, 150);
        int longest = numbers.oneOf(3, 4, 6, 9);
        int shortest = numbers.oneOf(2, 3, 3);
        for (int i = 0; i < steps.length; i++) {
            key += numbers.oneOf(0, 0, 0, 25, -25, 50, 75, -75, 100, -12);
            if (numbers.onceIn(8)) {
                continue;
            }
            int extra = numbers.onceIn(10) ? numbers.between(-400, 400) : 0;
            phrase(base + 100 * steps[i] + key + extra + numbers.between(-rough, rough),
                    numbers.between(shortest, longest), numbers.oneOf(0, 3, 20));
            if (numbers.onceIn(3)) {
                call("frame", numbers.upTo(9999), numbers.oneOf(0, 9, 30), numbers.oneOf(0, 49));
            }
        }
    }

    private void phrase(int pitch, int frames, int rough) {
        int certainty = numbers.oneOf(50, 55, 59, 60, 61, 90, 99);
        for (int i = 0; i < frames; i++) {
            int at = pitch + numbers.between(-rough, rough)
                    + (numbers.onceIn(12) ? numbers.oneOf(40, 41, -40, -41) : 0);
            call("frame", Math.max(0, Math.min(9999, at)), numbers.oneOf(10, 19, 20, 50, 99),
                    Math.max(50, Math.min(99, certainty + numbers.between(-3, 3))));
        }
    }

    private void askAll(int song) {
        call("cost", song);
        call("notes");
        for (int i = 0; i <= plain.notes(); i++) {
            call("laidOn", song, i);
            if (numbers.onceIn(2)) {
                call("keyOf", song, i);
                call("off", song, i);
                call("kindOf", song, i);
                call("lean", song, i);
            }
        }
        for (String name : new String[] {"drift", "lost", "share", "learn", "parent"}) {
            call(name, song);
        }
        call("distance", song, numbers.between(0, 4));
        for (String name : new String[] {"sung", "next", "meanPitch", "checksum", "isTrue", "tired"}) {
            call(name);
        }
        call("mastery", numbers.upTo(12));
        call("move", numbers.oneOf(-100, 0, 25, 1200));
        call("learn", song);
        call("learn", song);
    }

    private void listening() {
        int many = numbers.oneOf(3, 4, 5, 6, 12, 47, 48, 49);
        int lag = numbers.between(2, 24);
        int rough = numbers.oneOf(0, 1, 5, 40);
        int[] wave = new int[lag];
        for (int i = 0; i < lag; i++) {
            wave[i] = numbers.between(-99, 99);
        }
        for (int i = 0; i < many; i++) {
            int value = wave[i % lag] + numbers.between(-rough, rough);
            call("sample", Math.max(-99, Math.min(99, value)));
        }
        call("period");
        call("period");
    }

    private void singing() {
        for (int i = numbers.between(0, 9); i > 0; i--) {
            call("seat", numbers.between(-99, 99), numbers.upTo(10));
        }
        for (int i = 0; i < 12; i++) {
            call("choir", numbers.oneOf(1, 1, 2, 3, 10, 60));
            call("blend");
            call("offOf", numbers.upTo(8));
            call("swap", numbers.upTo(8), numbers.upTo(8));
            call("checksum");
        }
    }
}
