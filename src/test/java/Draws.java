/** The draws that are due from a z on. */
final class Draws {
    private int z;

    Draws(int z) {
        this.z = z;
    }

    int rest(int n) {
        z = (int) (z * 1103515245L + 12345L);
        return (z >>> 8) % n;
    }

    /** The least z from 0 on whose next draws have these rests by 100. */
    static int before(int... rests) {
        for (int z = 0; z < Integer.MAX_VALUE; z++) {
            Draws draws = new Draws(z);
            int same = 0;
            while (same < rests.length && draws.rest(100) == rests[same]) {
                same++;
            }
            if (same == rests.length) {
                return z;
            }
        }
        return -1;
    }

    int z() {
        return z;
    }
}
