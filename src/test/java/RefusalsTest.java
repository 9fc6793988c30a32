import java.util.function.ToIntFunction;

/**
 * A refused call: each REFUSAL of each promise, the first that fits in the order in which the promise tells them, and
 * that nothing changes but how many there were. Each is made on a busy object of its own.
 */
public final class RefusalsTest {
    private static final Due due = new Due();
    private static final int LOW = Integer.MIN_VALUE;
    private static final int HIGH = Integer.MAX_VALUE;

    public static void main(String[] args) {
        busyIsAsTold();
        server();
        serverInOrder();
        set();
        setInOrder();
        drain();
        back();
        rule();
        settings();
        call();
        callInOrder();
        off();
        ticks();
        pick();
        callOf();
        serverOf();
        mark();
        queue();
        share();
        count();
        manyRefusals();
        notCounted();
        due.end();
    }

    private static void refused(String call, int code, ToIntFunction<FrontDoor> made) {
        FrontDoor x = Doors.busy();
        due.refused(x, call, code, () -> made.applyAsInt(x));
        due.is(call + ": RULE", x.rule(0), 0);
        due.is(call + ": LIMIT", x.limit(1), 1);
        due.is(call + ": BUDGET", x.budget(20), 20);
        due.is(call + ": HEDGE", x.hedge(0), 0);
    }

    private static void busyIsAsTold() {
        FrontDoor x = Doors.busy();
        int[] health = {0, 1, 3, 4, 2};
        for (int k = 0; k < health.length; k++) {
            due.is("HEALTH of " + k, x.serverOf(k, 0), health[k]);
        }
        int[] state = {1, 3, 1, 1, 1, 0, 0};
        for (int n = 0; n < state.length; n++) {
            due.is("CALL " + n, x.callOf(n, 0), state[n]);
        }
        due.is("SERVERS and CALLS", x.count(1) * 10 + x.count(2), 57);
    }

    // ---- SERVERS

    private static void server() {
        due.says("Promise 2", "-1 ZONE; -4; -6 (8, too).");
        refused("ZONE 4", -1, x -> x.server(1, 4, 1, 1, 0));
        refused("ZONE -1", -1, x -> x.server(1, -1, 1, 1, 0));
        refused("WEIGHT 0", -4, x -> x.server(0, 0, 1, 1, 0));
        refused("ROOM 0", -4, x -> x.server(1, 0, 0, 1, 0));
        refused("PACE 0", -4, x -> x.server(1, 0, 1, 0, 0));
        refused("BREAKS -1", -4, x -> x.server(1, 0, 1, 1, -1));
        refused("WEIGHT 101", -6, x -> x.server(101, 0, 1, 1, 0));
        refused("ROOM 21", -6, x -> x.server(1, 0, 21, 1, 0));
        refused("PACE 201", -6, x -> x.server(1, 0, 1, 201, 0));
        refused("BREAKS 21", -6, x -> x.server(1, 0, 1, 1, 21));
    }

    private static void serverInOrder() {
        due.says("Terms", "the first that fits in the order in which it tells them");
        int[][] good = {{1, 1, 1, 0}, {0, 1, 1, 0}, {1, 0, 1, 0}, {1, 1, 0, 0}, {1, 1, 1, -1},
            {101, 1, 1, 0}, {1, 21, 1, 0}, {1, 1, 201, 0}, {1, 1, 1, 21}};
        for (int[] g : good) {
            refused("a wrong ZONE is ahead of all", -1, x -> x.server(g[0], 4, g[1], g[2], g[3]));
        }
        refused("WEIGHT below, ROOM above", -4, x -> x.server(0, 0, 21, 1, 0));
        refused("WEIGHT above, ROOM below", -4, x -> x.server(101, 0, 0, 1, 0));
        refused("WEIGHT above, PACE below", -4, x -> x.server(101, 0, 1, 0, 0));
        refused("WEIGHT above, BREAKS below", -4, x -> x.server(101, 0, 1, 1, -1));
        refused("ROOM above, PACE below", -4, x -> x.server(1, 0, 21, 0, 0));
        refused("ROOM above, BREAKS below", -4, x -> x.server(1, 0, 21, 1, -1));
        refused("PACE above, ROOM below", -4, x -> x.server(1, 0, 0, 201, 0));
        refused("PACE above, BREAKS below", -4, x -> x.server(1, 0, 1, 201, LOW));
        refused("BREAKS above, WEIGHT below", -4, x -> x.server(LOW, 0, 1, 1, HIGH));
        refused("all above", -6, x -> x.server(HIGH, 3, HIGH, HIGH, HIGH));
        refused("all below", -4, x -> x.server(LOW, 3, LOW, LOW, LOW));
    }

    private static void set() {
        due.says("Promise 3", "-1; -2; -3 GONE; -4; -6.");
        refused("of nobody", -1, x -> x.set(5, 0, 1));
        refused("what 5", -2, x -> x.set(0, 5, 1));
        refused("what -1", -2, x -> x.set(0, -1, 1));
        int[] least = {1, 1, 1, 0, 0};
        int[] most = {100, 20, 200, 20, 1};
        for (int i = 0; i < 5; i++) {
            int what = i;
            refused("of a GONE one, " + i, -3, x -> x.set(3, what, 1));
            refused("below, " + i, -4, x -> x.set(0, what, least[what] - 1));
            refused("above, " + i, -6, x -> x.set(0, what, most[what] + 1));
        }
        for (int k : new int[] {0, 1, 2, 4}) {
            due.is("SERVER " + k + " is not GONE", Doors.busy().set(k, 2, 7), 50);
        }
    }

    private static void setInOrder() {
        due.says("Terms", "the first that fits in the order in which it tells them");
        refused("nobody, what", -1, x -> x.set(5, 5, 1));
        refused("nobody, what, below", -1, x -> x.set(-1, -1, -1));
        refused("nobody, below", -1, x -> x.set(5, 0, 0));
        refused("nobody, above", -1, x -> x.set(HIGH, 0, HIGH));
        refused("what, GONE", -2, x -> x.set(3, 5, 1));
        refused("what, GONE, below", -2, x -> x.set(3, -1, LOW));
        refused("what, GONE, above", -2, x -> x.set(3, LOW, HIGH));
        refused("what, below", -2, x -> x.set(0, 5, LOW));
        refused("what, above", -2, x -> x.set(0, HIGH, HIGH));
        for (int i = 0; i < 5; i++) {
            int what = i;
            refused("GONE, below, " + i, -3, x -> x.set(3, what, -1));
            refused("GONE, above, " + i, -3, x -> x.set(3, what, 201));
        }
    }

    private static void drain() {
        due.says("Promise 4", "-1; -3 (also if it is DRAINING).");
        refused("of nobody", -1, x -> x.drain(5));
        refused("of nobody below 0", -1, x -> x.drain(-1));
        refused("of a DRAINING one", -3, x -> x.drain(2));
        refused("of a GONE one", -3, x -> x.drain(3));
        due.is("of a WELL one", Doors.busy().drain(0), 2);
        due.is("of an OUT one", Doors.busy().drain(1), 0);
        due.is("of a TRYING one", Doors.busy().drain(4), 1);
    }

    private static void back() {
        due.says("Promise 5", "One that is DRAINING, or GONE, is TRYING (FAILURES 0, PENALTY 10): 1. -1; -3.");
        refused("of nobody", -1, x -> x.back(5));
        refused("of nobody below 0", -1, x -> x.back(-1));
        refused("of a WELL one", -3, x -> x.back(0));
        refused("of an OUT one", -3, x -> x.back(1));
        refused("of a TRYING one", -3, x -> x.back(4));
        due.is("of a DRAINING one", Doors.busy().back(2), 1);
        due.is("of a GONE one", Doors.busy().back(3), 1);
    }

    // ---- settings

    private static void rule() {
        due.says("Promise 6", "RULE: what it was. -1.");
        refused("rule(-1)", -1, x -> x.rule(-1));
        refused("rule(4)", -1, x -> x.rule(4));
    }

    private static void settings() {
        due.says("Promise 7", "LIMIT: what it was. -4; -6.");
        refused("limit(0)", -4, x -> x.limit(0));
        refused("limit(11)", -6, x -> x.limit(11));
        due.says("Promise 8", "BUDGET: what it was. -4; -6.");
        refused("budget(-1)", -4, x -> x.budget(-1));
        refused("budget(101)", -6, x -> x.budget(101));
        due.says("Promise 9", "HEDGE: what it was. -4; -6.");
        refused("hedge(-1)", -4, x -> x.hedge(-1));
        refused("hedge(501)", -6, x -> x.hedge(501));
    }

    // ---- CALLS

    private static void call() {
        due.says("Promise 10", "-4 key, grade below 0, ticks below 1; -6 key above 65535, grade above 3, ticks above 2000, 200 CALLS.");
        refused("key -1", -4, x -> x.call(-1, 0, 1, true));
        refused("grade -1", -4, x -> x.call(0, -1, 1, true));
        refused("ticks 0", -4, x -> x.call(0, 0, 0, true));
        refused("ticks -1", -4, x -> x.call(0, 0, -1, true));
        refused("key 65536", -6, x -> x.call(65536, 0, 1, true));
        refused("grade 4", -6, x -> x.call(0, 4, 1, true));
        refused("ticks 2001", -6, x -> x.call(0, 0, 2001, true));
    }

    private static void callInOrder() {
        due.says("Terms", "the first that fits in the order in which it tells them");
        refused("key below, grade above", -4, x -> x.call(-1, 4, 1, false));
        refused("key below, ticks above", -4, x -> x.call(-1, 0, 2001, false));
        refused("grade below, key above", -4, x -> x.call(65536, -1, 1, false));
        refused("grade below, ticks above", -4, x -> x.call(0, -1, 2001, false));
        refused("ticks below, key above", -4, x -> x.call(65536, 0, 0, false));
        refused("ticks below, grade above", -4, x -> x.call(0, 4, 0, false));
        refused("all below", -4, x -> x.call(LOW, LOW, LOW, false));
        refused("all above", -6, x -> x.call(HIGH, HIGH, HIGH, false));
    }

    private static void off() {
        due.says("Promise 11", "A CALL that is QUEUED or OPEN is called off");
        refused("of nobody", -1, x -> x.off(7));
        refused("of nobody below 0", -1, x -> x.off(-1));
        refused("of one that FAILED", -3, x -> x.off(1));
        FrontDoor x = Doors.with(1, 2, 1, 0);
        x.call(0, 0, 9, false);
        x.call(0, 0, 9, false);
        x.off(1);
        x.ticks(1);
        due.refused(x, "of an ANSWERED one", -3, () -> x.off(0));
        due.refused(x, "of one that was TURNED away", -3, () -> x.off(1));
        for (int n : new int[] {0, 2, 3, 4, 5, 6}) {
            due.is("of QUEUED or OPEN " + n, Doors.busy().off(n), 1);
        }
    }

    private static void ticks() {
        due.says("Promise 12", "-4 below 1; -6 above 20000 in all.");
        refused("ticks(0)", -4, x -> x.ticks(0));
        refused("ticks(-1)", -4, x -> x.ticks(-1));
        refused("ticks(20000), one has passed", -6, x -> x.ticks(20000));
    }

    private static void pick() {
        due.says("Promise 13", "Nothing changes. -4; -6.");
        refused("pick(-1)", -4, x -> x.pick(-1));
        refused("pick(65536)", -6, x -> x.pick(65536));
        refused("none may: no REFUSAL", -9, x -> x.pick(0));
        FrontDoor x = Doors.with(3, 2, 9, 0);
        due.refused(x, "one may: no REFUSAL", 0, () -> x.pick(0));
    }

    // ---- what is told

    private static void callOf() {
        due.says("Promise 14", "-1; -2.");
        refused("of nobody", -1, x -> x.callOf(7, 0));
        refused("of nobody, what", -1, x -> x.callOf(7, 11));
        refused("of nobody below 0, what", -1, x -> x.callOf(-1, -1));
        refused("what 11", -2, x -> x.callOf(0, 11));
        refused("what -1", -2, x -> x.callOf(0, -1));
        refused("-9 is no REFUSAL", -9, x -> x.callOf(0, 10));
    }

    private static void serverOf() {
        due.says("Promise 15", "-1; -2.");
        refused("of nobody", -1, x -> x.serverOf(5, 0));
        refused("of nobody, what", -1, x -> x.serverOf(5, 16));
        refused("of nobody below 0, what", -1, x -> x.serverOf(-1, -1));
        refused("what 16", -2, x -> x.serverOf(0, 16));
        refused("what -1", -2, x -> x.serverOf(0, -1));
        refused("what 16 of a GONE one", -2, x -> x.serverOf(3, 16));
        refused("-9 is no REFUSAL", -9, x -> x.serverOf(0, 6));
    }

    private static void mark() {
        due.says("Promise 16", "MARK m of a SERVER. -1; -2 (no such MARK).");
        refused("of nobody", -1, x -> x.mark(5, 0));
        refused("of nobody, no such MARK", -1, x -> x.mark(5, 4));
        refused("of nobody below 0, no such MARK", -1, x -> x.mark(-1, -1));
        refused("mark 4", -2, x -> x.mark(0, 4));
        refused("mark -1", -2, x -> x.mark(0, -1));
        due.is("of a GONE one", Doors.busy().mark(3, 0), 2251);
    }

    private static void queue() {
        due.says("Promise 17", "-9 if there is none.");
        refused("queue(-1): no REFUSAL", -9, x -> x.queue(-1));
        refused("queue(2): no REFUSAL", -9, x -> x.queue(2));
    }

    private static void share() {
        due.says("Promise 18", "(cut; 0 without any). -1.");
        refused("of nobody", -1, x -> x.share(5));
        refused("of nobody below 0", -1, x -> x.share(-1));
    }

    private static void count() {
        due.says("Promise 19", "-9 for another what.");
        refused("count(18): no REFUSAL", -9, x -> x.count(18));
        refused("count(-1): no REFUSAL", -9, x -> x.count(-1));
    }

    // ---- how many there were

    private static void manyRefusals() {
        due.says("Terms", "nothing changes but how many there were");
        FrontDoor x = Doors.busy();
        for (int n = 1; n <= 50; n++) {
            x.rule(4);
            x.set(0, 5, 1);
            x.drain(3);
            x.limit(0);
            x.limit(11);
            int[] now = Due.refusals(x);
            int[] want = {0, n, n, n, n, 0, n};
            for (int i = 1; i <= 6; i++) {
                due.is("-" + i + " after " + n, now[i], want[i]);
            }
        }
    }

    private static void notCounted() {
        due.says("Terms", "REFUSALS (the call answers the number");
        FrontDoor x = Doors.busy();
        x.server(1, 0, 1, 1, 0);
        x.call(0, 0, 9, true);
        x.ticks(3);
        x.off(0);
        x.drain(5);
        x.back(5);
        x.set(0, 0, 9);
        for (int n : Due.refusals(x)) {
            due.is("calls that are not refused", n, 0);
        }
    }
}
