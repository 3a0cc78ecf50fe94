import java.util.Random;

/** Long runs of calls, right and wrong ones, on the class and on NaiveTown: every answer is the same. */
public final class NaiveTest {
    private static final String[] CALLS = {
        "road", "open", "table", "enter", "copy", "toll", "about", "isOf", "takes", "driver", "ways", "way",
        "choose", "told", "now", "store", "reply", "habits", "habit", "best", "rests", "rest", "extreme",
        "price", "harms", "agrees", "better", "queue", "teach", "level", "share", "undo", "count"};
    private static final int HEAVY_FROM = 19, HEAVY_TO = 28, CALLS_OF_ONE = 512;

    private final Random dice;
    private final int run;
    private final int places;
    private final int mostRoads;
    private final int mostDrivers;
    private final boolean narrow;
    private SelfishTown town = new SelfishTown();
    private NaiveTown naive = new NaiveTown();

    private NaiveTest(int run) {
        this.run = run;
        dice = new Random(run);
        places = run % 5 == 0 ? 4 : 2 + dice.nextInt(5);
        mostRoads = dice.nextInt(3) == 0 ? 10 : 3 + dice.nextInt(6);
        mostDrivers = dice.nextInt(3) == 0 ? 5 : 1 + dice.nextInt(4);
        narrow = dice.nextBoolean();
    }

    /** The town in which one more road makes all slower, with numbers of its own: there heaps agree. */
    private void buildHarmfulRoad() {
        int[][] roads = {{0, 0, 1}, {2, 0, 2}, {2, 1, 3}, {0, 2, 3}, {2, 1, 2}};
        for (int i = 0; i < roads.length; i++) {
            int flat = i == 4 ? dice.nextInt(3) : 15 + dice.nextInt(30);
            int[] one = {roads[i][0], roads[i][1], roads[i][2], 8 + dice.nextInt(5), roads[i][0] == 0 ? 0 : flat};
            Due.is("run " + run + ": road " + i, answer(0, one), due(0, one));
        }
        for (int d = 0; d < 3 + run % 3; d++) {
            int[] trip = {0, 3};
            Due.is("run " + run + ": driver " + d, answer(9, trip), due(9, trip));
        }
    }

    public static void main(String[] args) {
        for (int run = 0; run < 600; run++) {
            new NaiveTest(run).go();
        }
        Due.end();
    }

    private void go() {
        boolean harmful = run % 5 == 0;
        if (harmful) {
            buildHarmfulRoad();
        }
        for (int i = harmful ? 100 : 0; i < CALLS_OF_ONE - 1; i++) {
            int which = dice.nextInt(CALLS.length);
            boolean building = which == 0 && naive.count(0) >= mostRoads || which == 9 && naive.count(1) >= mostDrivers;
            if (building && dice.nextInt(20) != 0) {
                continue;
            }
            if (i < 30 && naive.count(0) < mostRoads && dice.nextInt(3) == 0) {
                which = 0;
            }
            if (i < 40 && naive.count(1) < mostDrivers && dice.nextInt(4) == 0) {
                which = 9;
            }
            boolean heavy = which >= HEAVY_FROM && which <= HEAVY_TO && naive.habits() > 150;
            if (heavy && dice.nextInt(12) != 0) {
                continue;
            }
            call(which);
            if (CALLS[which].equals("rest") && naive.habits() < 300) {
                i++;
                call(25);
            }
        }
    }

    /** A number from 0 to below n, now and then one outside. */
    private int some(int n) {
        if (dice.nextInt(40) == 0) {
            int[] odd = {-1, -2, n, n + 1, Integer.MIN_VALUE, Integer.MAX_VALUE, 1000000};
            return odd[dice.nextInt(odd.length)];
        }
        return n <= 0 ? 0 : dice.nextInt(n);
    }

    private int road() {
        return some(naive.count(0));
    }

    private int driver() {
        return some(naive.count(1));
    }

    private int place() {
        return some(places);
    }

    /** Two places, most often those of a road ahead or of the whole trip, so that ways are found. */
    private int[] trip(boolean whole) {
        if (dice.nextInt(8) == 0) {
            return new int[] {place(), place()};
        }
        if (whole && dice.nextInt(4) != 0) {
            return new int[] {0, places - 1};
        }
        int from = dice.nextInt(places - 1);
        int step = dice.nextInt(3) == 0 ? places : 2;
        return new int[] {from, Math.min(places - 1, from + 1 + dice.nextInt(step))};
    }

    private int b() {
        return narrow ? some(12) : dice.nextInt(6) == 0 ? some(1001) : some(60);
    }

    private int value() {
        return narrow ? some(20) : dice.nextBoolean() ? some(128) : some(100001);
    }

    private int much() {
        return dice.nextInt(30) == 0 ? 0 : 1 + (narrow ? some(20) : some(1000));
    }

    private void call(int which) {
        int p = 0, q = 0, r = 0, s = 0, t = 0;
        int[] trip = trip(which == 9);
        switch (CALLS[which]) {
            case "road": p = dice.nextInt(3) == 0 ? 0 : some(4); q = trip[0]; r = trip[1]; s = some(13); t = b(); break;
            case "open": p = road(); q = dice.nextInt(4) == 0 ? some(2) : 1; break;
            case "table": p = road(); q = some(2); r = dice.nextInt(8) == 0 ? -1 : some(7); break;
            case "enter": p = road(); q = some(6); r = value(); break;
            case "copy": p = road(); q = road(); r = some(7); break;
            case "toll": p = road(); q = dice.nextBoolean() ? some(30) : some(100001); break;
            case "about": p = road(); q = some(9); break;
            case "isOf": p = road(); q = some(4); break;
            case "takes": p = road(); q = some(7); break;
            case "driver": p = trip[0]; q = trip[1]; break;
            case "ways": case "reply": p = driver(); break;
            case "way": p = driver(); q = some(Math.max(0, naive.ways(p))); r = some(6); break;
            case "choose": p = driver(); q = dice.nextInt(9) == 0 ? -1 : some(Math.max(0, naive.ways(p))); break;
            case "told": p = driver(); q = some(5); break;
            case "now": case "extreme": p = some(3); break;
            case "habit": p = some(Math.max(0, naive.habits())); break;
            case "rest": p = dice.nextBoolean() ? 0 : some(4); break;
            case "price": p = some(2); break;
            case "better": p = dice.nextInt(9) == 0 ? 201 : some(201); break;
            case "level": p = trip[0]; q = trip[1]; r = much(); s = some(2); t = some(2); break;
            case "share": p = road(); q = much(); r = some(2); s = some(2); break;
            case "count": p = some(6); break;
            default: break;
        }
        String text = "run " + run + ": " + CALLS[which] + "(" + p + ", " + q + ", " + r + ", " + s + ", " + t + ")";
        int[] args = {p, q, r, s, t};
        Due.is(text, answer(which, args), due(which, args));
    }

    private long answer(int which, int[] v) {
        switch (CALLS[which]) {
            case "road": return town.road(v[0], v[1], v[2], v[3], v[4]);
            case "open": return town.open(v[0], v[1]);
            case "table": return town.table(v[0], v[1], v[2]);
            case "enter": return town.enter(v[0], v[1], v[2]);
            case "copy": return town.copy(v[0], v[1], v[2]);
            case "toll": return town.toll(v[0], v[1]);
            case "about": return town.about(v[0], v[1]);
            case "isOf": return town.isOf(v[0], v[1]);
            case "takes": return town.takes(v[0], v[1]);
            case "driver": return town.driver(v[0], v[1]);
            case "ways": return town.ways(v[0]);
            case "way": return town.way(v[0], v[1], v[2]);
            case "choose": return town.choose(v[0], v[1]);
            case "told": return town.told(v[0], v[1]);
            case "now": return town.now(v[0]);
            case "store": return town.store();
            case "reply": return town.reply(v[0]);
            case "habits": return town.habits();
            case "habit": return town.habit(v[0]);
            case "best": return town.best();
            case "rests": return town.rests();
            case "rest": return town.rest(v[0]);
            case "extreme": return town.extreme(v[0]);
            case "price": return town.price(v[0]);
            case "harms": return town.harms();
            case "agrees": return town.agrees();
            case "better": return town.better(v[0]);
            case "queue": return town.queue();
            case "teach": return town.teach();
            case "level": return town.level(v[0], v[1], v[2], v[3], v[4]);
            case "share": return town.share(v[0], v[1], v[2], v[3]);
            case "undo": return town.undo();
            default: return town.count(v[0]);
        }
    }

    private long due(int which, int[] v) {
        switch (CALLS[which]) {
            case "road": return naive.road(v[0], v[1], v[2], v[3], v[4]);
            case "open": return naive.open(v[0], v[1]);
            case "table": return naive.table(v[0], v[1], v[2]);
            case "enter": return naive.enter(v[0], v[1], v[2]);
            case "copy": return naive.copy(v[0], v[1], v[2]);
            case "toll": return naive.toll(v[0], v[1]);
            case "about": return naive.about(v[0], v[1]);
            case "isOf": return naive.isOf(v[0], v[1]);
            case "takes": return naive.takes(v[0], v[1]);
            case "driver": return naive.driver(v[0], v[1]);
            case "ways": return naive.ways(v[0]);
            case "way": return naive.way(v[0], v[1], v[2]);
            case "choose": return naive.choose(v[0], v[1]);
            case "told": return naive.told(v[0], v[1]);
            case "now": return naive.now(v[0]);
            case "store": return naive.store();
            case "reply": return naive.reply(v[0]);
            case "habits": return naive.habits();
            case "habit": return naive.habit(v[0]);
            case "best": return naive.best();
            case "rests": return naive.rests();
            case "rest": return naive.rest(v[0]);
            case "extreme": return naive.extreme(v[0]);
            case "price": return naive.price(v[0]);
            case "harms": return naive.harms();
            case "agrees": return naive.agrees();
            case "better": return naive.better(v[0]);
            case "queue": return naive.queue();
            case "teach": return naive.teach();
            case "level": return naive.level(v[0], v[1], v[2], v[3], v[4]);
            case "share": return naive.share(v[0], v[1], v[2], v[3]);
            case "undo": return naive.undo();
            default: return naive.count(v[0]);
        }
    }
}
