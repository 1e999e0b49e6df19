/** Numbers that look thrown, but are the same in each run. */
final class Dice {
    private long state;

    Dice(long seed) {
        state = seed * 0x9E3779B97F4A7C15L + 0x1234567L;
        for (int i = 0; i < 5; i++) {
            below(2);
        }
    }

    int any() {
        state ^= state << 13;
        state ^= state >>> 7;
        state ^= state << 17;
        return (int) (state * 0x2545F4914F6CDD1DL >>> 32);
    }

    int below(int bound) {
        return Math.floorMod(any(), bound);
    }

    int from(int least, int greatest) {
        return least + below(greatest - least + 1);
    }

    boolean one(int in) {
        return below(in) == 0;
    }

    int pick(int... choices) {
        return choices[below(choices.length)];
    }
}
