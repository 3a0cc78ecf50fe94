/** Promises 31 and 32: streams on roads side by side, by hand. */
public final class StreamsTest {
    private static final int BAD = -3, NO = -4;

    public static void main(String[] args) {
        wrongInputs();
        oneRoad();
        twoRoads();
        flatRoads();
        levelJustAtAFlatRoad();
        roadsThatAreNot();
        sharesAreTheWhole();
        Due.end();
    }

    private static void level(SelfishTown t, int q, int kind, long above, long below) {
        Due.is("level of " + q + ", kind " + kind + ", above", t.level(0, 1, q, kind, 0), above);
        Due.is("level of " + q + ", kind " + kind + ", below", t.level(0, 1, q, kind, 1), below);
    }

    private static void share(SelfishTown t, int road, int q, int kind, long above, long below) {
        Due.is("share of " + road + " of " + q + ", kind " + kind + ", above", t.share(road, q, kind, 0), above);
        Due.is("share of " + road + " of " + q + ", kind " + kind + ", below", t.share(road, q, kind, 1), below);
    }

    private static void wrongInputs() {
        SelfishTown t = new SelfishTown();
        Due.is("BAD ahead of NO", t.level(0, 0, 1, 0, 0), BAD);
        t.road(0, 0, 1, 1, 1);
        int[][] levels = {
            {-1, 1, 1, 0, 0}, {6, 1, 1, 0, 0}, {0, -1, 1, 0, 0}, {0, 6, 1, 0, 0}, {1, 1, 1, 0, 0}, {0, 1, 0, 0, 0},
            {0, 1, 1001, 0, 0}, {0, 1, 1, -1, 0}, {0, 1, 1, 2, 0}, {0, 1, 1, 0, -1}, {0, 1, 1, 0, 2}};
        for (int[] v : levels) {
            Due.is("wrong level", t.level(v[0], v[1], v[2], v[3], v[4]), BAD);
        }
        int[][] shares = {
            {-1, 1, 0, 0}, {1, 1, 0, 0}, {0, 0, 0, 0}, {0, 1001, 0, 0}, {0, 1, -1, 0}, {0, 1, 2, 0}, {0, 1, 0, -1},
            {0, 1, 0, 2}};
        for (int[] v : shares) {
            Due.is("wrong share", t.share(v[0], v[1], v[2], v[3]), BAD);
        }
        Due.is("no road back", t.level(1, 0, 1, 0, 0), NO);
        Due.is("count(5)", t.count(5), 1);
    }

    private static void oneRoad() {
        SelfishTown t = new SelfishTown();
        t.road(0, 0, 1, 3, 5);
        t.toll(0, 999);
        level(t, 1, 0, 8, 1);
        level(t, 1000, 0, 3005, 1);
        level(t, 1000, 1, 6005, 1);
        share(t, 0, 1000, 1, 1000, 1);
        t.open(0, 0);
        Due.is("level of a shut road", t.level(0, 1, 1, 0, 0), NO);
        Due.is("share of a shut road", t.share(0, 1, 0, 0), NO);
    }

    private static void twoRoads() {
        SelfishTown t = new SelfishTown();
        t.road(0, 0, 1, 2, 10);
        t.road(0, 0, 1, 3, 0);
        // as long as 3 x is 10 at most, the second has all of it
        level(t, 3, 0, 9, 1);
        share(t, 0, 3, 0, 0, 1);
        share(t, 1, 3, 0, 3, 1);
        // (L - 10) / 2 + L / 3 = 4: L = 54 / 5
        level(t, 4, 0, 54, 5);
        share(t, 0, 4, 0, 2, 5);
        share(t, 1, 4, 0, 18, 5);
        // (L - 10) / 4 + L / 6 = 4: L = 78 / 5
        level(t, 4, 1, 78, 5);
        share(t, 0, 4, 1, 7, 5);
        share(t, 1, 4, 1, 13, 5);
        // 6 x is 6 at best
        level(t, 1, 1, 6, 1);
        share(t, 0, 1, 1, 0, 1);
    }

    private static void flatRoads() {
        SelfishTown t = new SelfishTown();
        t.road(2, 0, 1, 7, 12);
        t.road(0, 0, 1, 0, 9);
        t.road(2, 0, 1, 0, 9);
        t.road(0, 0, 1, 4, 2);
        level(t, 1, 0, 6, 1);
        level(t, 5, 0, 9, 1);
        share(t, 3, 5, 0, 7, 4);
        share(t, 1, 5, 0, 13, 4);
        share(t, 2, 5, 0, 0, 1);
        share(t, 0, 5, 0, 0, 1);
        share(t, 3, 5, 1, 7, 8);
        share(t, 1, 5, 1, 33, 8);
        t.open(1, 0);
        share(t, 1, 5, 0, 0, 1);
        share(t, 2, 5, 0, 13, 4);
        t.open(3, 0);
        level(t, 5, 1, 9, 1);
        share(t, 2, 5, 1, 5, 1);
        SelfishTown free = new SelfishTown();
        free.road(2, 0, 1, 0, 0);
        level(free, 77, 0, 0, 1);
        share(free, 0, 77, 0, 77, 1);
    }

    private static void levelJustAtAFlatRoad() {
        SelfishTown t = new SelfishTown();
        t.road(0, 0, 1, 1, 0);
        t.road(2, 0, 1, 0, 6);
        level(t, 6, 0, 6, 1);
        share(t, 0, 6, 0, 6, 1);
        share(t, 1, 6, 0, 0, 1);
        level(t, 3, 1, 6, 1);
        share(t, 0, 3, 1, 3, 1);
        share(t, 1, 3, 1, 0, 1);
    }

    private static void roadsThatAreNot() {
        SelfishTown t = new SelfishTown();
        t.road(1, 0, 1, 1, 0);
        t.road(3, 0, 1, 1, 0);
        t.road(0, 1, 0, 1, 0);
        t.road(0, 1, 2, 1, 0);
        Due.is("level of STEEP and TOLD ones", t.level(0, 1, 1, 0, 0), NO);
        Due.is("share of a STEEP one", t.share(0, 1, 0, 0), NO);
        t.road(0, 0, 1, 5, 5);
        level(t, 1, 0, 10, 1);
        share(t, 0, 1, 0, 0, 1);
        share(t, 1, 1, 0, 0, 1);
        share(t, 4, 1, 0, 1, 1);
        share(t, 2, 9, 0, 9, 1);
        share(t, 3, 9, 1, 9, 1);
    }

    private static void sharesAreTheWhole() {
        SelfishTown t = new SelfishTown();
        for (int r = 0; r < 10; r++) {
            t.road(0, 0, 1, r + 3, r * r * 7);
        }
        for (int q = 1; q <= 1000; q += 37) {
            double whole = 0;
            for (int r = 0; r < 10; r++) {
                whole += (double) t.share(r, q, 1, 0) / t.share(r, q, 1, 1);
            }
            Due.holds("the shares of " + q + " are the whole", Math.abs(whole - q) < 1e-9);
        }
    }
}
