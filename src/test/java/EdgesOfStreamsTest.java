import java.math.BigInteger;
import java.util.Random;
import java.util.function.Supplier;

/** The boundary cases of Terms 4 and of promises 31 and 32, a test for each sentence that names one. */
public final class EdgesOfStreamsTest {
    private static final int BAD = -3, NO = -4;

    public static void main(String[] args) {
        streamOfOneAndOfThousand();
        levelPlaces();
        levelRefused();
        levelWithoutRoad();
        shareRefused();
        shareWithoutRoad();
        shareOfOthers();
        onlyOpenRoads();
        onlyKindsThatStream();
        onlyStraightRoads();
        lowestTerms();
        levelOfNothing();
        levelJustWhereARoadBegins();
        slopeZeroIsFlat();
        severalFlatOnes();
        flatOneThatIsReached();
        tollsAndDriversAreNoMatter();
        restAndBestAreExact();
        Due.end();
    }

    private static void level(SelfishTown t, int q, int kind, long above, long below) {
        Due.is("level of " + q + ", kind " + kind + ", above", t.level(0, 1, q, kind, 0), above);
        Due.is("level of " + q + ", kind " + kind + ", below", t.level(0, 1, q, kind, 1), below);
    }

    private static void share(SelfishTown t, int road, int q, int kind, long above, long below) {
        Due.is("share of " + road + " of " + q + ", kind " + kind + ", above", t.share(road, q, kind, 0), above);
        Due.is("share of " + road + " of " + q + ", kind " + kind + ", below", t.share(road, q, kind, 1), below);
    }

    private static SelfishTown oneRoad(int kind, int a, int b) {
        SelfishTown t = new SelfishTown();
        t.road(kind, 0, 1, a, b);
        return t;
    }

    /** "so much as Q (1 .. 1000)", with the greatest and the least a and b. */
    private static void streamOfOneAndOfThousand() {
        level(oneRoad(0, 12, 1000), 1, 0, 1012, 1);
        level(oneRoad(0, 12, 1000), 1, 1, 1024, 1);
        level(oneRoad(0, 12, 1000), 1000, 0, 13000, 1);
        level(oneRoad(0, 12, 1000), 1000, 1, 25000, 1);
        level(oneRoad(0, 0, 0), 1000, 1, 0, 1);
        level(oneRoad(2, 12, 1000), 1000, 1, 1000, 1);
        for (int kind = 0; kind <= 1; kind++) {
            share(oneRoad(0, 12, 1000), 0, 1, kind, 1, 1);
            share(oneRoad(0, 12, 1000), 0, 1000, kind, 1000, 1);
            share(oneRoad(2, 12, 1000), 0, 1000, kind, 1000, 1);
        }
    }

    /** "BAD: places": 0 .. 5, and another one. */
    private static void levelPlaces() {
        for (int from = -1; from <= 6; from++) {
            for (int to = -1; to <= 6; to++) {
                boolean right = from >= 0 && from <= 5 && to >= 0 && to <= 5 && from != to;
                SelfishTown t = new SelfishTown();
                t.road(0, from, to, 2, 3);
                Due.is("level from " + from + " to " + to, t.level(from, to, 1, 0, 0), right ? 5 : BAD);
                Due.is("level back", t.level(to, from, 1, 0, 0), right ? NO : BAD);
            }
        }
    }

    private static SelfishTown streaming() {
        SelfishTown t = Towns.lively();
        t.road(0, 4, 5, 1, 1);
        return t;
    }

    /** "BAD: places, q, kind, part", each ahead of NO. */
    private static void levelRefused() {
        for (int place : Towns.outside(0, 5)) {
            Still.refused("level(" + place + ", 1, ..)", EdgesOfStreamsTest::streaming, t -> t.level(place, 1, 1, 0, 0), BAD);
            Still.refused("level(0, " + place + ", ..)", EdgesOfStreamsTest::streaming, t -> t.level(0, place, 1, 0, 0), BAD);
        }
        int[][] trips = {{0, 1}, {1, 0}};
        for (int[] trip : trips) {
            for (int q : Towns.outside(1, 1000)) {
                Still.refused("level, q " + q, EdgesOfStreamsTest::streaming, t -> t.level(trip[0], trip[1], q, 0, 0), BAD);
            }
            for (int v : Towns.outside(0, 1)) {
                Still.refused("level, kind " + v, EdgesOfStreamsTest::streaming, t -> t.level(trip[0], trip[1], 1, v, 0), BAD);
                Still.refused("level, part " + v, EdgesOfStreamsTest::streaming, t -> t.level(trip[0], trip[1], 1, 0, v), BAD);
            }
        }
    }

    /** "NO: there is no such ROAD." */
    private static void levelWithoutRoad() {
        for (int kind = 0; kind <= 1; kind++) {
            for (int part = 0; part <= 1; part++) {
                int k = kind;
                int p = part;
                Still.refused("level(1, 0, ..)", EdgesOfStreamsTest::streaming, t -> t.level(1, 0, 1, k, p), NO);
                Still.refused("level(1, 2, ..)", EdgesOfStreamsTest::streaming, t -> t.level(1, 2, 1000, k, p), NO);
                Still.refused("level(0, 2, ..)", EdgesOfStreamsTest::streaming, t -> t.level(0, 2, 1, k, p), NO);
                Still.refused("level of a new town", SelfishTown::new, t -> t.level(0, 1, 1, k, p), NO);
            }
        }
    }

    /** "BAD: road, q, kind, part", each ahead of NO. */
    private static void shareRefused() {
        for (int road : Towns.outside(0, 4)) {
            Still.refused("share(" + road + ", ..)", EdgesOfStreamsTest::streaming, t -> t.share(road, 1, 0, 0), BAD);
        }
        Due.is("share(9, ..)", Towns.full().share(9, 1, 0, 0), 0);
        Due.is("share(10, ..)", Towns.full().share(10, 1, 0, 0), BAD);
        // road 2 is TOLD and alone, so that its stream has none of those roads
        for (int road = 0; road <= 2; road += 2) {
            int it = road;
            for (int q : Towns.outside(1, 1000)) {
                Still.refused("share, q " + q, EdgesOfStreamsTest::streaming, t -> t.share(it, q, 0, 0), BAD);
            }
            for (int v : Towns.outside(0, 1)) {
                Still.refused("share, kind " + v, EdgesOfStreamsTest::streaming, t -> t.share(it, 1, v, 0), BAD);
                Still.refused("share, part " + v, EdgesOfStreamsTest::streaming, t -> t.share(it, 1, 0, v), BAD);
            }
        }
    }

    /** "NO: there is none of those ROADS." */
    private static void shareWithoutRoad() {
        Supplier<SelfishTown> make = EdgesOfStreamsTest::streaming;
        Still.refused("share of a TOLD one alone", make, t -> t.share(2, 1, 0, 0), NO);
        Still.refused("share of a STEEP one that is shut", make, t -> t.share(3, 1, 0, 1), NO);
        Due.is("share of a STEEP one alone", oneRoad(1, 1, 1).share(0, 1, 1, 0), NO);
        SelfishTown shut = oneRoad(0, 1, 1);
        shut.open(0, 0);
        Due.is("share of a shut one alone", shut.share(0, 1, 0, 0), NO);
        shut.road(0, 1, 0, 1, 1);
        Due.is("share of a shut one, with one back", shut.share(0, 1, 0, 0), NO);
        Due.is("share of the one back", shut.share(1, 1, 0, 0), 1);
    }

    /** "(0 / 1, if it has none, also if it is not one of those)". */
    private static void shareOfOthers() {
        SelfishTown t = oneRoad(0, 1, 0);
        t.road(1, 0, 1, 0, 0);
        t.road(3, 0, 1, 0, 0);
        t.road(2, 0, 1, 0, 1000);
        t.road(0, 0, 1, 0, 0);
        t.open(4, 0);
        for (int kind = 0; kind <= 1; kind++) {
            share(t, 0, 5, kind, 5, 1);
            for (int r = 1; r <= 4; r++) {
                share(t, r, 5, kind, 0, 1);
            }
        }
    }

    /** "by all OPEN ROADS": so many of ten alike as are open have the same share of 840. */
    private static void onlyOpenRoads() {
        int[][] due = {{84, 1}, {280, 3}, {105, 1}, {120, 1}, {140, 1}, {168, 1}, {210, 1}, {280, 1}, {420, 1}, {840, 1}};
        SelfishTown t = Towns.sideBySide(10, 0);
        for (int shut = 0; shut < 10; shut++) {
            share(t, 9, 840, 0, due[shut][0], due[shut][1]);
            level(t, 840, 0, due[shut][0], due[shut][1]);
            if (shut < 9) {
                t.open(shut, 0);
                share(t, shut, 840, 0, 0, 1);
            }
        }
    }

    /** "of KINDS 0 and 2". */
    private static void onlyKindsThatStream() {
        int[] due = {7, NO, 5, NO};
        for (int kind = 0; kind <= 3; kind++) {
            SelfishTown t = oneRoad(kind, 2, 5);
            t.table(0, 0, 6);
            Due.is("level of kind " + kind, t.level(0, 1, 1, 0, 0), due[kind]);
        }
    }

    /** "that go straight between them". */
    private static void onlyStraightRoads() {
        SelfishTown t = new SelfishTown();
        t.road(2, 0, 2, 0, 0);
        t.road(2, 2, 1, 0, 0);
        Due.is("by another place", t.level(0, 1, 1, 0, 0), NO);
        t.road(2, 0, 1, 0, 9);
        level(t, 1000, 0, 9, 1);
        share(t, 2, 1000, 0, 1000, 1);
    }

    /** "in lowest terms, below it above 0". */
    private static void lowestTerms() {
        SelfishTown t = new SelfishTown();
        for (int a = 1; a <= 10; a++) {
            t.road(0, 0, 1, a, 0);
        }
        // 1 + 1/2 + .. + 1/10 are 7381/2520
        level(t, 1000, 0, 2520000, 7381);
        level(t, 1000, 1, 5040000, 7381);
        for (int kind = 0; kind <= 1; kind++) {
            for (int a = 1; a <= 10; a++) {
                share(t, a - 1, 1000, kind, 2520000 / a, 7381);
            }
        }
        // 7381 is 11 * 11 * 61
        level(t, 61, 0, 2520, 121);
        level(t, 122, 0, 5040, 121);
        level(t, 671, 0, 2520, 11);
        share(t, 9, 671, 0, 252, 11);
    }

    private static void levelOfNothing() {
        for (int kind = 0; kind <= 1; kind++) {
            level(oneRoad(2, 12, 0), 1000, kind, 0, 1);
            level(oneRoad(0, 0, 0), 1, kind, 0, 1);
        }
    }

    /** "AT REST all that have a share take the same, no one less": the second one begins at b. */
    private static void levelJustWhereARoadBegins() {
        SelfishTown t = oneRoad(0, 1, 0);
        t.road(0, 0, 1, 1, 10);
        level(t, 9, 0, 9, 1);
        share(t, 1, 9, 0, 0, 1);
        level(t, 10, 0, 10, 1);
        share(t, 0, 10, 0, 10, 1);
        share(t, 1, 10, 0, 0, 1);
        level(t, 11, 0, 21, 2);
        share(t, 0, 11, 0, 21, 2);
        share(t, 1, 11, 0, 1, 2);
        level(t, 4, 1, 8, 1);
        share(t, 1, 4, 1, 0, 1);
        level(t, 5, 1, 10, 1);
        share(t, 1, 5, 1, 0, 1);
        level(t, 6, 1, 11, 1);
        share(t, 0, 6, 1, 11, 2);
        share(t, 1, 6, 1, 1, 2);
    }

    /** "(With a road of KIND 0 and a 0 as with a FLAT one.)" */
    private static void slopeZeroIsFlat() {
        for (int kind = 0; kind <= 1; kind++) {
            SelfishTown t = oneRoad(0, 2, 0);
            t.road(0, 0, 1, 0, 8);
            SelfishTown u = oneRoad(0, 2, 0);
            u.road(2, 0, 1, 12, 8);
            for (int q = 1; q <= 6; q++) {
                int full = kind == 0 ? 4 : 2;
                int first = Math.min(q, full);
                level(t, q, kind, first * (kind == 0 ? 2 : 4), 1);
                level(u, q, kind, first * (kind == 0 ? 2 : 4), 1);
                share(t, 0, q, kind, first, 1);
                share(u, 0, q, kind, first, 1);
                share(t, 1, q, kind, q - first, 1);
                share(u, 1, q, kind, q - first, 1);
            }
        }
    }

    /** "SHARES of several that do not depend on x and take just the LEVEL: all of it comes to the least ROAD." */
    private static void severalFlatOnes() {
        SelfishTown t = new SelfishTown();
        t.road(2, 0, 1, 0, 8);
        t.road(0, 0, 1, 0, 7);
        t.road(2, 0, 1, 0, 7);
        t.road(0, 0, 1, 0, 7);
        for (int kind = 0; kind <= 1; kind++) {
            level(t, 9, kind, 7, 1);
            int[] due = {0, 9, 0, 0};
            for (int r = 0; r < 4; r++) {
                share(t, r, 9, kind, due[r], 1);
            }
        }
        t.open(1, 0);
        share(t, 1, 9, 0, 0, 1);
        share(t, 2, 9, 0, 9, 1);
        t.open(2, 0);
        share(t, 3, 9, 0, 9, 1);
        share(t, 0, 9, 0, 0, 1);
        t.open(3, 0);
        share(t, 0, 9, 0, 9, 1);
        level(t, 9, 0, 8, 1);
    }

    /** A flat one that takes just the LEVEL when the others have all: it has none, and is not dearer. */
    private static void flatOneThatIsReached() {
        SelfishTown t = oneRoad(2, 0, 6);
        t.road(0, 0, 1, 1, 0);
        t.road(0, 0, 1, 1, 6);
        level(t, 6, 0, 6, 1);
        share(t, 0, 6, 0, 0, 1);
        share(t, 1, 6, 0, 6, 1);
        share(t, 2, 6, 0, 0, 1);
        level(t, 7, 0, 6, 1);
        share(t, 0, 7, 0, 1, 1);
        share(t, 1, 7, 0, 6, 1);
        share(t, 2, 7, 0, 0, 1);
        level(t, 1000, 1, 6, 1);
        share(t, 0, 1000, 1, 997, 1);
        share(t, 1, 1000, 1, 3, 1);
        share(t, 2, 1000, 1, 0, 1);
    }

    private static void tollsAndDriversAreNoMatter() {
        SelfishTown t = Towns.sideBySide(2, 5);
        t.queue();
        level(t, 5, 0, 5, 2);
        t.toll(0, 100000);
        level(t, 5, 0, 5, 2);
        share(t, 0, 5, 0, 5, 2);
        Still.asBefore("level", Towns::lively, x -> x.level(0, 1, 5, 0, 0));
        Still.asBefore("share", Towns::lively, x -> x.share(0, 5, 1, 1));
    }

    /** The shares are the whole; all that have one meet the LEVEL, and no one is below it. */
    private static void restAndBestAreExact() {
        Random dice = new Random(7);
        for (int run = 0; run < 60; run++) {
            SelfishTown t = new SelfishTown();
            for (int r = 0; r < 10; r++) {
                t.road(dice.nextInt(12) == 0 ? 2 : 0, 0, 1, 1 + dice.nextInt(12), dice.nextInt(run % 2 == 0 ? 1001 : 60));
            }
            int q = run % 3 == 0 ? 1000 : 1 + dice.nextInt(1000);
            exact(t, q, run % 2);
        }
    }

    private static void exact(SelfishTown t, int q, int kind) {
        BigInteger high = BigInteger.valueOf(t.level(0, 1, q, kind, 0));
        BigInteger low = BigInteger.valueOf(t.level(0, 1, q, kind, 1));
        BigInteger above = BigInteger.ZERO;
        BigInteger below = BigInteger.ONE;
        Due.holds("the level is in lowest terms", high.gcd(low).equals(BigInteger.ONE) && low.signum() > 0);
        for (int r = 0; r < 10; r++) {
            BigInteger top = BigInteger.valueOf(t.share(r, q, kind, 0));
            BigInteger bottom = BigInteger.valueOf(t.share(r, q, kind, 1));
            Due.holds("a share is in lowest terms", top.gcd(bottom).equals(BigInteger.ONE) && bottom.signum() > 0);
            long slope = t.about(r, 0) == 2 ? 0 : (long) t.about(r, 3) * (kind + 1);
            BigInteger met = top.multiply(BigInteger.valueOf(slope)).add(bottom.multiply(BigInteger.valueOf(t.about(r, 4))));
            int order = met.multiply(low).compareTo(high.multiply(bottom));
            Due.holds("met by road " + r, top.signum() > 0 ? order == 0 : top.signum() == 0 && order >= 0);
            above = above.multiply(bottom).add(top.multiply(below));
            below = below.multiply(bottom);
        }
        Due.holds("the shares are the whole", above.equals(below.multiply(BigInteger.valueOf(q))));
    }
}
