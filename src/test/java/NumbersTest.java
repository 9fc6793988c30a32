/**
 * Too small, too large: of each number that has a least and a greatest, these two and those next to them inside are
 * taken; the one below, the one above and the ends of int are refused, and then nothing changes.
 */
public final class NumbersTest {
    private static final Due due = new Due();
    private static final int LOW = Integer.MIN_VALUE;
    private static final int HIGH = Integer.MAX_VALUE;

    /** A call that is given the number v, or one that shows what became of it. */
    private interface Made {
        int by(FrontDoor x, int v);
    }

    public static void main(String[] args) {
        numbersOfANewServer();
        numbersThatAreSet();
        settings();
        numbersOfACall();
        ticks();
        pickKey();
        whats();
        marks();
        places();
        counts();
        numbersOfServers();
        numbersOfCalls();
        due.end();
    }

    // ---- the three parts of a range

    private static void below(String number, int least, int code, Made made) {
        for (int v : new int[] {LOW, LOW + 1, -65536, least - 2, least - 1}) {
            FrontDoor x = Doors.busy();
            due.refused(x, number + " " + v, code, () -> made.by(x, v));
        }
    }

    private static void above(String number, int greatest, int code, Made made) {
        for (int v : new int[] {greatest + 1, greatest + 2, greatest + 65536, HIGH - 1, HIGH}) {
            FrontDoor x = Doors.busy();
            due.refused(x, number + " " + v, code, () -> made.by(x, v));
        }
    }

    private static void inside(String number, int least, int greatest, Made made, Made shown) {
        for (int v : new int[] {least, least + 1, greatest - 1, greatest}) {
            if (v >= least && v <= greatest) {
                FrontDoor x = Doors.busy();
                due.holds(number + " " + v + " is taken", made.by(x, v) >= 0);
                due.is(number + " " + v + " is what is shown then", shown.by(x, v), v);
                for (int n : Due.refusals(x)) {
                    due.is(number + " " + v + ": REFUSALS", n, 0);
                }
            }
        }
    }

    private static void range(String number, int least, int greatest, Made made, Made shown) {
        below(number, least, -4, made);
        above(number, greatest, -6, made);
        inside(number, least, greatest, made, shown);
    }

    // ---- numbers of SERVERS

    private static Made lastServer(int what) {
        return (x, v) -> x.serverOf(x.count(1) - 1, what);
    }

    private static void numbersOfANewServer() {
        due.says("Promise 2", "-1 ZONE; -4; -6 (8, too).");
        due.says("Terms", "a WEIGHT (1 .. 100)");
        range("server: WEIGHT", 1, 100, (x, v) -> x.server(v, 0, 1, 1, 0), lastServer(10));
        due.says("Terms", "a ROOM (1 .. 20: OPEN ASKINGS at most)");
        range("server: ROOM", 1, 20, (x, v) -> x.server(1, 0, v, 1, 0), lastServer(12));
        due.says("Terms", "a PACE (1 .. 200: TICKS till it answers)");
        range("server: PACE", 1, 200, (x, v) -> x.server(1, 0, 1, v, 0), lastServer(13));
        due.says("Terms", "BREAKS (0 .. 20: each ASKING whose number at this SERVER");
        range("server: BREAKS", 0, 20, (x, v) -> x.server(1, 0, 1, 1, v), lastServer(14));
        due.says("Terms", "a ZONE (0 .. 3)");
        Made zone = (x, v) -> x.server(1, v, 1, 1, 0);
        below("server: ZONE", 0, -1, zone);
        above("server: ZONE", 3, -1, zone);
        inside("server: ZONE", 0, 3, zone, lastServer(11));
    }

    private static void numbersThatAreSet() {
        due.says("Promise 3", "0 WEIGHT, 1 ROOM, 2 PACE, 3 BREAKS, 4 MUTE (0, 1) becomes v: what it was. -1; -2; -3 GONE; -4; -6.");
        String[] name = {"WEIGHT", "ROOM", "PACE", "BREAKS", "MUTE"};
        int[] least = {1, 1, 1, 0, 0};
        int[] greatest = {100, 20, 200, 20, 1};
        int[] was = {1, 2, 50, 0, 0};
        for (int i = 0; i < name.length; i++) {
            int what = i;
            Made set = (x, v) -> x.set(0, what, v);
            range("set: " + name[i], least[i], greatest[i], set, (x, v) -> x.serverOf(0, what == 0 ? 10 : 11 + what));
            FrontDoor x = Doors.busy();
            due.is("set: " + name[i] + ": what it was", x.set(0, what, greatest[i]), was[i]);
            due.is("set: " + name[i] + ": what it was then", x.set(0, what, least[i]), greatest[i]);
            due.is("set: " + name[i] + ": the same once more", x.set(0, what, least[i]), least[i]);
        }
    }

    // ---- settings

    private static void settings() {
        due.says("Promise 7", "LIMIT: what it was. -4; -6.");
        due.says("Terms", "at LIMIT (1 .. 10; 3 at first)");
        range("limit", 1, 10, (x, v) -> x.limit(v), (x, v) -> x.limit(5));
        due.says("Promise 8", "BUDGET: what it was. -4; -6.");
        due.says("Terms", "BUDGET (0 .. 100; 20 at first)");
        range("budget", 0, 100, (x, v) -> x.budget(v), (x, v) -> x.budget(5));
        due.says("Promise 9", "HEDGE: what it was. -4; -6.");
        due.says("Terms", "(HEDGE 0: none; 1 .. 500)");
        range("hedge", 0, 500, (x, v) -> x.hedge(v), (x, v) -> x.hedge(5));
        due.says("Promise 6", "RULE: what it was. -1.");
        below("rule", 0, -1, (x, v) -> x.rule(v));
        above("rule", 3, -1, (x, v) -> x.rule(v));
        inside("rule", 0, 3, (x, v) -> x.rule(v), (x, v) -> x.rule(0));
    }

    // ---- numbers of CALLS

    private static Made lastCall(int what) {
        return (x, v) -> x.callOf(x.count(2) - 1, what);
    }

    private static void numbersOfACall() {
        due.says("Promise 10", "-4 key, grade below 0, ticks below 1; -6 key above 65535, grade above 3, ticks above 2000, 200 CALLS.");
        due.says("Terms", "a KEY (0 .. 65535)");
        range("call: KEY", 0, 65535, (x, v) -> x.call(v, 0, 1, true), lastCall(1));
        due.says("Terms", "a GRADE (0 .. 3)");
        range("call: GRADE", 0, 3, (x, v) -> x.call(0, v, 1, true), lastCall(2));
        due.says("Promise 10", "with DUE so many TICKS (1 .. 2000) from now");
        range("call: ticks", 1, 2000, (x, v) -> x.call(0, 0, v, true), (x, v) -> x.callOf(7, 3) - x.count(0));
        FrontDoor x = Doors.busy();
        due.is("a CALL that is SAFE", x.callOf(x.call(0, 0, 1, true), 4), 1);
        due.is("one that is not", x.callOf(x.call(0, 0, 1, false), 4), 0);
    }

    private static void ticks() {
        due.says("Promise 12", "-4 below 1; -6 above 20000 in all.");
        // One TICK of the busy object has passed.
        below("ticks", 1, -4, (x, v) -> x.ticks(v));
        above("ticks", 19999, -6, (x, v) -> x.ticks(v));
        inside("ticks", 1, 19999, (x, v) -> x.ticks(v), (x, v) -> x.count(0) - 1);
        FrontDoor x = new FrontDoor();
        due.is("20001 of a new object", x.ticks(20001), -6);
        due.is("none passed", x.count(0), 0);
        due.is("20000 of a new object", x.ticks(20000), 0);
        due.is("all passed", x.count(0), 20000);
    }

    private static void pickKey() {
        due.says("Promise 13", "Nothing changes. -4; -6.");
        below("pick", 0, -4, (x, v) -> x.pick(v));
        above("pick", 65535, -6, (x, v) -> x.pick(v));
        for (int key : new int[] {0, 1, 65534, 65535}) {
            FrontDoor x = Doors.busy();
            due.refused(x, "pick " + key + ": nobody may in the busy object", -9, () -> x.pick(key));
            x.server(1, 0, 1, 1, 0);
            due.is("pick " + key + ": the new one may", x.pick(key), 5);
        }
    }

    // ---- whats, MARKS, places, counts

    private static void whats() {
        due.says("Promise 3", "-1; -2; -3 GONE; -4; -6.");
        below("set: what", 0, -2, (x, v) -> x.set(0, v, 1));
        above("set: what", 4, -2, (x, v) -> x.set(0, v, 1));
        due.says("Promise 14", "10 in which it ended (-9). -1; -2.");
        below("callOf: what", 0, -2, (x, v) -> x.callOf(0, v));
        above("callOf: what", 10, -2, (x, v) -> x.callOf(0, v));
        FrontDoor x = Doors.busy();
        due.is("callOf: what 0", x.callOf(1, 0), 3);
        due.is("callOf: what 10", x.callOf(1, 10), 1);
        due.says("Promise 15", "15 1 if MUTE. -1; -2.");
        below("serverOf: what", 0, -2, (y, v) -> y.serverOf(0, v));
        above("serverOf: what", 15, -2, (y, v) -> y.serverOf(0, v));
        due.is("serverOf: what 0", x.serverOf(1, 0), 1);
        due.is("serverOf: what 15", x.serverOf(1, 15), 0);
        x.set(1, 4, 1);
        due.is("serverOf: what 15 of a MUTE one", x.serverOf(1, 15), 1);
    }

    private static void marks() {
        due.says("Promise 16", "MARK m of a SERVER. -1; -2 (no such MARK).");
        below("mark: m", 0, -2, (x, v) -> x.mark(0, v));
        above("mark: m", 3, -2, (x, v) -> x.mark(0, v));
        int[] at = {40503, 15470, 55973, 30940};
        for (int m = 0; m < at.length; m++) {
            due.is("mark(0, " + m + ")", Doors.busy().mark(0, m), at[m]);
        }
    }

    private static void places() {
        due.says("Promise 17", "-9 if there is none.");
        below("queue", 0, -9, (x, v) -> x.queue(v));
        above("queue", 1, -9, (x, v) -> x.queue(v));
        due.is("queue(0), the first place", Doors.busy().queue(0), 6);
        due.is("queue(1), the last place", Doors.busy().queue(1), 5);
    }

    private static void counts() {
        due.says("Promise 19", "-9 for another what.");
        below("count", 0, -9, (x, v) -> x.count(v));
        above("count", 17, -9, (x, v) -> x.count(v));
        due.is("count(0), the least", Doors.busy().count(0), 1);
        due.is("count(17), the greatest", Doors.busy().count(17), 4);
        due.says("Promise 19", "11 .. 16 REFUSALS -1 .. -6");
        FrontDoor x = new FrontDoor();
        for (int n = 0; n < 9; n++) {
            x.rule(-1);
            x.limit(n < 3 ? 0 : 11);
        }
        int[] want = {9, 0, 0, 3, 0, 6};
        for (int i = 0; i < want.length; i++) {
            due.is("count(" + (11 + i) + ")", x.count(11 + i), want[i]);
        }
    }

    // ---- which SERVER, which CALL

    private static void nobody(String call, int there, Made made) {
        below(call, 0, -1, made);
        above(call, there - 1, -1, made);
    }

    private static void numbersOfServers() {
        due.says("Terms", "-1 NOBODY: no such SERVER, CALL, RULE, ZONE.");
        nobody("set: SERVER", 5, (x, v) -> x.set(v, 1, 1));
        nobody("drain: SERVER", 5, (x, v) -> x.drain(v));
        nobody("back: SERVER", 5, (x, v) -> x.back(v));
        nobody("serverOf: SERVER", 5, (x, v) -> x.serverOf(v, 0));
        nobody("mark: SERVER", 5, (x, v) -> x.mark(v, 0));
        nobody("share: SERVER", 5, (x, v) -> x.share(v));
        due.says("Terms", "SERVERS have numbers from 0 on (8 at most)");
        for (int k : new int[] {0, 7}) {
            FrontDoor x = Doors.with(8, 5, 9, 0);
            due.is("set of " + k, x.set(k, 1, 6), 5);
            due.is("its ROOM", x.serverOf(k, 12), 6);
            due.is("the other's ROOM", x.serverOf(7 - k, 12), 5);
            due.is("share of " + k, x.share(k), 0);
            due.is("MARK 0 of " + k, x.mark(k, 0), k == 0 ? 40503 : 60475);
            due.is("drain of " + k, x.drain(k), 0);
            due.is("its HEALTH", x.serverOf(k, 0), 4);
            due.is("the other's HEALTH", x.serverOf(7 - k, 0), 0);
            due.is("back of " + k, x.back(k), 1);
        }
    }

    private static void numbersOfCalls() {
        due.says("Promise 11", "it is TURNED away (its ASKINGS are neither answers nor FAILURES): 1. -1; -3.");
        nobody("off: CALL", 7, (x, v) -> x.off(v));
        due.says("Promise 14", "-1; -2.");
        nobody("callOf: CALL", 7, (x, v) -> x.callOf(v, 0));
        due.says("Terms", "CALLS have numbers from 0 on (200 at most)");
        FrontDoor x = new FrontDoor();
        for (int n = 0; n < 200; n++) {
            due.is("its number", x.call(n, 0, 9, false), n);
        }
        due.is("KEY of CALL 0", x.callOf(0, 1), 0);
        due.is("KEY of CALL 199", x.callOf(199, 1), 199);
        due.is("CALL 200", x.callOf(200, 1), -1);
        due.is("off 200", x.off(200), -1);
        due.is("off 199", x.off(199), 1);
        due.is("off 0", x.off(0), 1);
        due.is("two were TURNED away", x.count(7), 2);
        due.is("these two", x.callOf(0, 0) * 10 + x.callOf(199, 0), 44);
    }
}
