import java.util.function.Supplier;
import java.util.function.ToLongFunction;

/** What stays as it was: all that can be seen of a town, now and after each undo(). */
final class Still {
    /** One more than the changes that are kept, so that the last undo() is refused. */
    private static final int MOST_BACK = 9;

    private Still() {
    }

    /** The answer is due, and the town is as one of the same making that has not heard the call. */
    static void refused(String call, Supplier<SelfishTown> make, ToLongFunction<SelfishTown> made, long due) {
        Due.is(call, made.applyAsLong(make.get()), due);
        asBefore(call, make, made);
    }

    static void asBefore(String call, Supplier<SelfishTown> make, ToLongFunction<SelfishTown> made) {
        for (int back = 0; back <= MOST_BACK; back++) {
            SelfishTown heard = make.get();
            made.applyAsLong(heard);
            Due.same(call + ", then undo() " + back + " times", seen(heard, back), seen(make.get(), back));
        }
    }

    /** The change is kept, and undo() brings all back. */
    static void undone(String call, Supplier<SelfishTown> make, ToLongFunction<SelfishTown> change) {
        int kept = make.get().count(5);
        SelfishTown t = make.get();
        change.applyAsLong(t);
        Due.is("count(5) after " + call, t.count(5), kept + 1);
        asBefore(call + " and undo()", make, it -> change.applyAsLong(it) + it.undo());
    }

    /** All answers that tell of the town after so many undo()s. Nothing can be asked of the town after that. */
    private static String seen(SelfishTown t, int back) {
        StringBuilder all = new StringBuilder("undo");
        for (int i = 0; i < back; i++) {
            all.append(' ').append(t.undo());
        }
        all.append("; count");
        for (int what = 0; what <= 5; what++) {
            all.append(' ').append(t.count(what));
        }
        all.append("; store ").append(t.store()).append("; habits ").append(t.habits());
        all.append("; now ").append(t.now(0)).append(' ').append(t.now(1)).append(' ').append(t.now(2));
        seeDrivers(t, all);
        seeRoads(t, all);
        seeTables(t, all);
        return all.toString();
    }

    private static void seeDrivers(SelfishTown t, StringBuilder all) {
        for (int d = 0; d < t.count(1); d++) {
            all.append("; driver ").append(d).append(':');
            for (int what = 0; what <= 4; what++) {
                all.append(' ').append(t.told(d, what));
            }
            all.append(", reply ").append(t.reply(d)).append(", ways");
            int ways = t.ways(d);
            for (int k = 0; k < ways; k++) {
                all.append(' ').append(t.way(d, k, 0));
            }
        }
    }

    private static void seeRoads(SelfishTown t, StringBuilder all) {
        int roads = t.count(0);
        for (int r = 0; r < roads; r++) {
            all.append("; road ").append(r).append(':');
            for (int what = 0; what <= 8; what++) {
                all.append(' ').append(t.about(r, what));
            }
            all.append(", takes");
            for (int x = 1; x <= 5; x++) {
                all.append(' ').append(t.takes(r, x));
            }
        }
    }

    /** By calls that change the tables, so it comes last. A copy of nothing tells bytes from ints. */
    private static void seeTables(SelfishTown t, StringBuilder all) {
        int roads = t.count(0);
        for (int r = 0; r < roads; r++) {
            all.append("; table ").append(r).append(": ").append(t.copy(r, 0, 0));
            int places = t.about(r, 8);
            for (int i = 0; i < places; i++) {
                all.append(' ').append(t.enter(r, i, 128)).append(' ').append(t.enter(r, i, 0));
            }
        }
    }
}
