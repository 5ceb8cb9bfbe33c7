/** The same row of numbers each time. */
final class Numbers {
    private long state;

    Numbers(long seed) {
        state = seed * 2654435761L + 88172645463325252L;
    }

    int upTo(int most) {
        state ^= state << 13;
        state ^= state >>> 7;
        state ^= state << 17;
        return (int) Math.floorMod(state >>> 16, (long) most + 1);
    }

    int between(int low, int high) {
        return low + upTo(high - low);
    }

    int oneOf(int... choices) {
        return choices[upTo(choices.length - 1)];
    }

    boolean onceIn(int many) {
        return upTo(many - 1) == 0;
    }
}
