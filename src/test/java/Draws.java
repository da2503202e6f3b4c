/** The draws that are due from a z on. */
final class Draws {
    private int z;

    Draws(int z) {
        this.z = z;
    }

    int rest(int n) {
        z = (int) (z * 1103515245L + 12345L);
        return (z >>> 8) % n;
    }

    int z() {
        return z;
    }
}
