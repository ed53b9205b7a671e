/** Numbers that look like chance and are the same in each run. */
final class Chance {
    private long seed;

    Chance(long seed) {
        this.seed = seed;
    }

    long any(long least, long greatest) {
        seed = seed * 6364136223846793005L + 1442695040888963407L;
        return greatest <= least ? least : least + (seed >>> 20) % (greatest - least + 1);
    }

    int anyInt(int least, int greatest) {
        return (int) any(least, greatest);
    }

    boolean once(int in) {
        return any(1, in) == 1;
    }

    /** Often a round one. */
    int rate() {
        int[] round = {0, 1, 100, 500, 1250, 5000, 10000, 12500, 19999, 20000};
        return once(2) ? round[anyInt(0, round.length - 1)] : anyInt(0, 20000);
    }

    /** Of any length. */
    long upTo(long greatest) {
        long most = greatest;
        for (long cuts = any(0, 9); cuts > 0 && most > 9; cuts--) {
            most /= any(2, 10);
        }
        return any(0, most);
    }
}
