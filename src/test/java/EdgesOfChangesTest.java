import java.util.ArrayDeque;
import java.util.Deque;
import java.util.Random;
import java.util.function.ToLongFunction;

/** The boundary cases of Terms 5 and of promises 33 and 34, a test for each sentence that names one. */
public final class EdgesOfChangesTest {
    private static final int NONE = -1, BAD = -3, NO = -4;

    public static void main(String[] args) {
        eightAreKept();
        oldestIsNoLongerKept();
        eightOfEachCall();
        undoOfNone();
        undoIsNoChange();
        changesAfterUndo();
        keptOnesGoRound();
        eachChangeIsTakenBack();
        changesOfNothingAreChanges();
        questionsAreNoChanges();
        refusedOnesAreNotKept();
        countOfNothing();
        countOfAll();
        countEach();
        countRefused();
        lastCalls();
        Due.end();
    }

    /** "The latest 8 are kept": 7, 8, and no ninth. */
    private static void eightAreKept() {
        SelfishTown t = Towns.sideBySide(1, 0);
        for (int changes = 2; changes <= 20; changes++) {
            t.toll(0, changes);
            Due.is("count(5) after " + changes, t.count(5), Math.min(8, changes));
        }
    }

    /** The change ahead of the latest 8 can't be taken back. */
    private static void oldestIsNoLongerKept() {
        for (int changes = 7; changes <= 10; changes++) {
            SelfishTown t = new SelfishTown();
            for (int i = 0; i < changes; i++) {
                t.road(0, 0, 1, 1, i);
            }
            int kept = Math.min(8, changes);
            for (int left = kept - 1; left >= 0; left--) {
                Due.is("undo()", t.undo(), left);
                Due.is("count(0)", t.count(0), changes - kept + left);
            }
            Due.is("undo() once more", t.undo(), NO);
            Due.is("count(0)", t.count(0), changes - kept);
        }
    }

    private static long change(SelfishTown t, int which) {
        switch (which) {
            case 0: return t.road(0, 2, 3, 1, 1);
            case 1: return t.open(3, 1);
            case 2: return t.table(2, 0, 5);
            case 3: return t.enter(2, 0, 9);
            case 4: return t.copy(2, 2, 1);
            case 5: return t.toll(0, 7);
            case 6: return t.driver(1, 2);
            case 7: return t.choose(0, 1);
            case 8: return t.best();
            case 9: return t.rest(0);
            case 10: return t.habit(2);
            case 11: return t.better(1);
            case 12: return t.queue();
            default: return t.teach();
        }
    }

    /** Every call that changes pushes out the oldest. */
    private static void eightOfEachCall() {
        for (int which = 0; which <= 13; which++) {
            SelfishTown t = Towns.lively();
            int most = which == 0 ? 6 : which == 6 ? 3 : 9;
            for (int i = 0; i < most; i++) {
                Due.holds("change " + which, change(t, which) >= 0);
                Due.is("count(5)", t.count(5), 8);
            }
            for (int left = 7; left >= 0; left--) {
                Due.is("undo() of change " + which, t.undo(), left);
            }
            Due.is("undo() once more", t.undo(), NO);
        }
    }

    /** "NO: none." */
    private static void undoOfNone() {
        Still.refused("undo() of a new town", SelfishTown::new, SelfishTown::undo, NO);
        SelfishTown t = Towns.calm();
        for (int left = 2; left >= 0; left--) {
            Due.is("undo()", t.undo(), left);
        }
        for (int i = 0; i < 3; i++) {
            Due.is("undo() of none", t.undo(), NO);
            Due.is("count(5)", t.count(5), 0);
            Due.is("count(0)", t.count(0), 0);
        }
        Due.is("a road after it", t.road(0, 0, 1, 1, 1), 0);
        Due.is("count(5)", t.count(5), 1);
    }

    /** undo() is not among the CHANGES: it can't be taken back itself. */
    private static void undoIsNoChange() {
        SelfishTown t = Towns.sideBySide(1, 0);
        t.toll(0, 1);
        t.toll(0, 2);
        Due.is("undo()", t.undo(), 2);
        Due.is("about(0, 5)", t.about(0, 5), 1);
        Due.is("undo()", t.undo(), 1);
        Due.is("about(0, 5)", t.about(0, 5), 0);
    }

    private static void changesAfterUndo() {
        SelfishTown t = Towns.sideBySide(1, 0);
        for (int v = 1; v <= 9; v++) {
            t.toll(0, v);
        }
        t.undo();
        t.undo();
        Due.is("count(5)", t.count(5), 6);
        t.toll(0, 50);
        Due.is("count(5)", t.count(5), 7);
        t.toll(0, 51);
        t.toll(0, 52);
        Due.is("count(5)", t.count(5), 8);
        int[] due = {51, 50, 7, 6, 5, 4, 3, 2};
        for (int i = 0; i < 8; i++) {
            Due.is("undo()", t.undo(), 7 - i);
            Due.is("about(0, 5)", t.about(0, 5), due[i]);
        }
        Due.is("undo() of none", t.undo(), NO);
    }

    /** Changes and undo()s in many orders, beside a list of what the toll was; ahead of the road it was none. */
    private static void keptOnesGoRound() {
        Random dice = new Random(3);
        for (int run = 0; run < 40; run++) {
            SelfishTown t = Towns.sideBySide(1, 0);
            Deque<Integer> were = new ArrayDeque<>();
            were.push(NONE);
            int now = 0;
            for (int i = 1; i <= 150 && now != NONE; i++) {
                if (dice.nextInt(5) < 2) {
                    boolean none = were.isEmpty();
                    Due.is("undo()", t.undo(), none ? NO : were.size() - 1);
                    now = none ? now : were.pop();
                } else {
                    Due.is("toll(0, " + i + ")", t.toll(0, i), now);
                    were.push(now);
                    now = i;
                    if (were.size() > 8) {
                        were.removeLast();
                    }
                }
                Due.is("about(0, 5)", t.about(0, 5), now == NONE ? BAD : now);
                Due.is("count(5)", t.count(5), were.size());
            }
        }
    }

    /** "ROADS, TABLES, DRIVERS and CHOICES are as they were", after each of the calls that change. */
    private static void eachChangeIsTakenBack() {
        for (int which = 0; which <= 13; which++) {
            int it = which;
            Still.undone("change " + which, Towns::livelyWithRoom, t -> change(t, it));
        }
        Still.undone("open(0, 0)", Towns::livelyWithRoom, t -> t.open(0, 0));
        Still.undone("table(2, 1, -1)", Towns::livelyWithRoom, t -> t.table(2, 1, -1));
        Still.undone("enter(0, 5, 127)", Towns::livelyWithRoom, t -> t.enter(0, 5, 127));
        Still.undone("choose(1, -1)", Towns::livelyWithRoom, t -> t.choose(1, -1));
        Still.undone("better(200)", Towns::livelyWithRoom, t -> t.better(200));
    }

    /** A call that is not refused is a change, also if all is as before. */
    private static void changesOfNothingAreChanges() {
        Still.undone("open(0, 1), it is open", Towns::livelyWithRoom, t -> t.open(0, 1));
        Still.undone("open(3, 0), it is shut", Towns::livelyWithRoom, t -> t.open(3, 0));
        Still.undone("table(1, 0, -1), it is MISSING", Towns::livelyWithRoom, t -> t.table(1, 0, -1));
        Still.undone("enter(0, 5, 99), it is so", Towns::livelyWithRoom, t -> t.enter(0, 5, 99));
        Still.undone("copy(0, 0, 0)", Towns::livelyWithRoom, t -> t.copy(0, 0, 0));
        Still.undone("toll(1, 4), it is so", Towns::livelyWithRoom, t -> t.toll(1, 4));
        Still.undone("choose(0, 0), it is so", Towns::livelyWithRoom, t -> t.choose(0, 0));
        ToLongFunction<SelfishTown> twice = t -> t.better(200) + t.undo() + t.better(200);
        Still.undone("better(200) again", Towns::livelyWithRoom, twice);
        Still.undone("queue() of nobody", SelfishTown::new, SelfishTown::queue);
        Still.undone("best() of nobody", SelfishTown::new, SelfishTown::best);
        Still.undone("teach() of nobody", SelfishTown::new, SelfishTown::teach);
        Still.undone("better(1) of nobody", SelfishTown::new, t -> t.better(1));
        Still.undone("habit(0) of nobody", SelfishTown::new, t -> t.habit(0));
        Still.undone("rest(0) of nobody", SelfishTown::new, t -> t.rest(0));
    }

    private static long question(SelfishTown t, int which) {
        switch (which) {
            case 0: return t.about(0, 7);
            case 1: return t.isOf(0, 0);
            case 2: return t.takes(0, 1);
            case 3: return t.ways(0);
            case 4: return t.way(0, 0, 0);
            case 5: return t.told(0, 1);
            case 6: return t.now(2);
            case 7: return t.store();
            case 8: return t.reply(0);
            case 9: return t.habits();
            case 10: return t.rests();
            case 11: return t.extreme(2);
            case 12: return t.price(1);
            case 13: return t.harms();
            case 14: return t.agrees();
            case 15: return t.level(0, 1, 9, 1, 0);
            case 16: return t.share(0, 9, 1, 0);
            default: return t.count(5);
        }
    }

    private static void questionsAreNoChanges() {
        for (int which = 0; which <= 17; which++) {
            int it = which;
            Still.asBefore("question " + which, Towns::lively, t -> question(t, it));
            Still.asBefore("question " + which, Towns::calm, t -> question(t, it));
            Still.asBefore("question " + which, Towns::full, t -> question(t, it));
            Still.asBefore("question " + which, SelfishTown::new, t -> question(t, it));
            SelfishTown asked = Towns.lively();
            long first = question(asked, it);
            Due.is("question " + which + " again", question(asked, it), first);
        }
    }

    /** "A call that is refused .. changes nothing": as many of them as can be, one behind the other. */
    private static void refusedOnesAreNotKept() {
        ToLongFunction<SelfishTown> all = t -> t.road(4, 0, 1, 1, 1) + t.open(0, 2) + t.table(0, 2, 1) + t.enter(1, 0, 0)
            + t.enter(2, 2, 0) + t.enter(2, 0, -1) + t.copy(0, 1, 0) + t.copy(0, 2, 0) + t.copy(2, 2, 3) + t.toll(0, -1)
            + t.driver(0, 0) + t.choose(0, 2) + t.habit(4) + t.rest(-1) + t.better(0);
        int sum = BAD + BAD + BAD - 11 - 13 + BAD - 11 + NO - 13 + BAD + BAD + BAD + BAD + BAD + BAD;
        Still.refused("all refused ones", Towns::lively, all, sum);
    }

    // ---- promise 34

    private static void countOfNothing() {
        for (int what = 0; what <= 5; what++) {
            Due.is("count(" + what + ") of nothing", new SelfishTown().count(what), 0);
        }
    }

    private static void countOfAll() {
        int[] due = {10, 5, 10, 10, 5, 8};
        for (int what = 0; what <= 5; what++) {
            Due.is("count(" + what + ") of all", Towns.full().count(what), due[what]);
        }
    }

    private static void countEach() {
        int[] due = {4, 2, 3, 2, 2, 8};
        SelfishTown t = Towns.lively();
        for (int what = 0; what <= 5; what++) {
            Due.is("count(" + what + ")", t.count(what), due[what]);
        }
        t.open(3, 1);
        Due.is("count(2) as one is opened", t.count(2), 4);
        Due.is("count(4) as all have none", t.count(4), 0);
        for (int r = 0; r < 4; r++) {
            t.open(r, 0);
        }
        Due.is("count(2) as all are shut", t.count(2), 0);
        t.table(0, 0, 0);
        Due.is("count(3): no places, but there", t.count(3), 2);
        t.table(0, 0, -1);
        t.table(2, 0, -1);
        Due.is("count(3): all MISSING", t.count(3), 0);
    }

    private static void countRefused() {
        for (int what : Towns.outside(0, 5)) {
            Still.refused("count(" + what + ")", Towns::lively, t -> t.count(what), BAD);
            Due.is("count(" + what + ") of nothing", new SelfishTown().count(what), BAD);
        }
    }

    /** "at most 512 calls after it has been made": the last of them is answered as the first. */
    private static void lastCalls() {
        SelfishTown t = Towns.sideBySide(1, 0);
        for (int call = 2; call <= 511; call++) {
            Due.is("call " + call, t.toll(0, call), call == 2 ? 0 : call - 1);
        }
        Due.is("call 512", t.undo(), 7);
    }
}
