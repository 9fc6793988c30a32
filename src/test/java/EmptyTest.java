/** Empty: no SERVERS, no CALLS, nobody in THE QUEUE, no ASKINGS so far, none may. */
public final class EmptyTest {
    private static final Due due = new Due();

    public static void main(String[] args) {
        newObject();
        noServers();
        noCalls();
        callsWithoutServers();
        nobodyInTheQueue();
        noAskingsSoFar();
        noneMay();
        noneMayByAnyRule();
        noAskingNow();
        notOut();
        noOpenAskings();
        nothingPasses();
        due.end();
    }

    private static void newObject() {
        due.says("Promise 1", "No SERVERS; RULE 0, HEDGE 0.");
        FrontDoor x = new FrontDoor();
        for (int what = 0; what <= 17; what++) {
            due.is("count(" + what + ")", x.count(what), 0);
        }
        due.is("RULE", x.rule(0), 0);
        due.is("HEDGE", x.hedge(0), 0);
        due.is("LIMIT, 3 at first", x.limit(3), 3);
        due.is("BUDGET, 20 at first", x.budget(20), 20);
        FrontDoor y = new FrontDoor();
        x.server(1, 0, 1, 1, 0);
        due.is("nothing is shared between objects", y.count(1), 0);
    }

    private static void noServers() {
        due.says("Terms", "-1 NOBODY: no such SERVER, CALL, RULE, ZONE.");
        for (int k = -1; k <= 1; k++) {
            int server = k;
            FrontDoor x = new FrontDoor();
            due.refused(x, "set(" + k + ", 0, 1)", -1, () -> x.set(server, 0, 1));
            due.refused(x, "drain(" + k + ")", -1, () -> x.drain(server));
            due.refused(x, "back(" + k + ")", -1, () -> x.back(server));
            due.refused(x, "serverOf(" + k + ", 0)", -1, () -> x.serverOf(server, 0));
            due.refused(x, "mark(" + k + ", 0)", -1, () -> x.mark(server, 0));
            due.refused(x, "share(" + k + ")", -1, () -> x.share(server));
        }
    }

    private static void noCalls() {
        due.says("Terms", "-1 NOBODY: no such SERVER, CALL, RULE, ZONE.");
        for (int n = -1; n <= 1; n++) {
            int call = n;
            FrontDoor x = Doors.with(2, 2, 2, 0);
            due.refused(x, "off(" + n + ")", -1, () -> x.off(call));
            due.refused(x, "callOf(" + n + ", 0)", -1, () -> x.callOf(call, 0));
        }
    }

    private static void callsWithoutServers() {
        due.says("Terms", "else the CALL is QUEUED");
        for (int rule = 0; rule <= 3; rule++) {
            FrontDoor x = new FrontDoor();
            x.rule(rule);
            x.hedge(1);
            x.budget(100);
            due.is("call, RULE " + rule, x.call(65535, 3, 5, true), 0);
            due.is("QUEUED, RULE " + rule, x.callOf(0, 0), 0);
            due.is("till its DUE, RULE " + rule, x.ticks(4), 0);
            due.is("its DUE, RULE " + rule, x.ticks(1), 1);
            due.is("TURNED away, RULE " + rule, x.callOf(0, 0), 4);
            due.is("no ASKINGS, RULE " + rule, x.count(8), 0);
        }
    }

    private static void nobodyInTheQueue() {
        due.says("Promise 17", "Place i of THE QUEUE (0: who is asked first); -9 if there is none.");
        FrontDoor x = new FrontDoor();
        due.refused(x, "queue(0) without CALLS", -9, () -> x.queue(0));
        x.call(0, 0, 5, false);
        due.is("one", x.queue(0), 0);
        due.is("no second", x.queue(1), -9);
        x.server(1, 0, 1, 2, 0);
        x.ticks(1);
        due.is("it is asked: none", x.queue(0), -9);
        x.call(0, 0, 5, false);
        due.is("one waits", x.queue(0), 1);
        x.off(1);
        due.is("called off: none", x.queue(0), -9);
        x.call(0, 0, 1, false);
        due.is("one waits", x.queue(0), 2);
        x.ticks(1);
        due.is("its DUE: none", x.queue(0), -9);
        due.is("-9 is no REFUSAL", x.count(11) + x.count(12) + x.count(13) + x.count(14) + x.count(15) + x.count(16), 0);
    }

    private static void noAskingsSoFar() {
        due.says("Promise 18", "How many in 1000 of all ASKINGS so far a SERVER had (cut; 0 without any).");
        FrontDoor x = Doors.with(2, 1, 1, 0);
        due.is("share(0)", x.share(0), 0);
        due.is("share(1)", x.share(1), 0);
        x.drain(0);
        x.drain(1);
        x.call(0, 0, 5, false);
        x.ticks(1);
        due.is("a CALL that nobody was asked for", x.share(0), 0);
        x.back(1);
        x.ticks(1);
        due.is("all of them", x.share(1), 1000);
        due.is("a SERVER without any", x.share(0), 0);
        due.is("a GONE one has a share too", x.serverOf(0, 0), 4);
        due.is("no such SERVER", x.share(2), -1);
    }

    private static void noneMay() {
        due.says("Promise 13", "-9 none may (it would be QUEUED). Nothing changes.");
        FrontDoor x = new FrontDoor();
        due.refused(x, "no SERVERS", -9, () -> x.pick(0));
        FrontDoor y = Doors.with(1, 1, 9, 0);
        y.call(0, 0, 50, false);
        due.refused(y, "ROOM taken up", -9, () -> y.pick(0));
        FrontDoor z = Doors.with(2, 1, 9, 0);
        z.drain(0);
        z.drain(1);
        due.refused(z, "all GONE", -9, () -> z.pick(0));
    }

    private static void noneMayByAnyRule() {
        due.says("Promise 13", "-9 none may (it would be QUEUED). Nothing changes.");
        for (int rule = 0; rule <= 3; rule++) {
            for (int key : new int[] {0, 1, 40503, 65535}) {
                FrontDoor x = Doors.busy();
                x.rule(rule);
                due.refused(x, "RULE " + rule + " pick(" + key + ")", -9, () -> x.pick(key));
                x.call(key, 0, 50, true);
                due.is("RULE " + rule + ", KEY " + key + ": QUEUED", x.callOf(7, 0), 0);
            }
        }
    }

    private static void noAskingNow() {
        due.says("Promise 14", "6 the SERVER of its first ASKING (now; of an ANSWERED one: that which answered; -9), 7 of its second (-9)");
        FrontDoor x = Doors.with(1, 1, 3, 0);
        for (int n = 0; n < 3; n++) {
            x.call(0, 0, n == 1 ? 2 : 90, false);
        }
        due.is("OPEN: first", x.callOf(0, 6), 0);
        due.is("OPEN: second", x.callOf(0, 7), -9);
        due.is("QUEUED: first", x.callOf(1, 6), -9);
        due.is("QUEUED: second", x.callOf(1, 7), -9);
        x.ticks(2);
        due.is("TURNED away: first", x.callOf(1, 6), -9);
        x.ticks(1);
        due.is("ANSWERED: first", x.callOf(0, 6), 0);
        due.is("ANSWERED: second", x.callOf(0, 7), -9);
        due.is("ANSWERED: ASKINGS now", x.callOf(0, 5), 0);
        x.off(2);
        due.is("called off: first", x.callOf(2, 6), -9);
        x.set(0, 3, 1);
        x.call(0, 0, 90, false);
        x.ticks(3);
        due.is("FAILED", x.callOf(3, 0), 3);
        due.is("FAILED: first", x.callOf(3, 6), -9);
        due.says("Promise 14", "9 the TICK in which it came, 10 in which it ended (-9)");
        x = new FrontDoor();
        x.call(0, 0, 2, false);
        due.is("came in TICK 0", x.callOf(0, 9), 0);
        x.ticks(1);
        due.is("not ended", x.callOf(0, 10), -9);
        x.call(0, 0, 2, false);
        due.is("came in TICK 1", x.callOf(1, 9), 1);
        x.off(1);
        due.is("ended in the TICK in which it came", x.callOf(1, 10), 1);
        x.ticks(1);
        due.is("ended in TICK 2", x.callOf(0, 10), 2);
        x = new FrontDoor();
        x.call(0, 0, 2, false);
        x.off(0);
        due.is("ended in TICK 0", x.callOf(0, 10), 0);
    }

    private static void notOut() {
        due.says("Promise 15", "6 the TICK up to which it is OUT (-9)");
        FrontDoor x = Doors.busy();
        int[] want = {-9, 11, -9, -9, -9};
        for (int k = 0; k < want.length; k++) {
            due.is("of SERVER " + k, x.serverOf(k, 6), want[k]);
        }
        x.drain(1);
        due.is("of one that was OUT and is GONE", x.serverOf(1, 6), -9);
        x.back(1);
        due.is("of one that was OUT and is TRYING", x.serverOf(1, 6), -9);
        x.ticks(10);
        due.is("TRYING as that TICK comes", x.serverOf(1, 0), 2);
    }

    private static void noOpenAskings() {
        due.says("Promise 4", "(GONE at once without OPEN ASKINGS): how many those are.");
        FrontDoor x = Doors.with(1, 20, 9, 0);
        due.is("none", x.drain(0), 0);
        due.is("GONE at once", x.serverOf(0, 0), 4);
        x = Doors.with(1, 20, 9, 0);
        x.call(0, 0, 9, false);
        due.is("one", x.drain(0), 1);
        due.is("DRAINING", x.serverOf(0, 0), 3);
        x = Doors.with(1, 20, 9, 0);
        x.call(0, 0, 9, false);
        x.off(0);
        due.is("none any more", x.drain(0), 0);
        due.is("GONE at once too", x.serverOf(0, 0), 4);
    }

    private static void nothingPasses() {
        due.says("Promise 12", "n TICKS pass: how many CALLS ended.");
        FrontDoor x = new FrontDoor();
        due.is("an empty object", x.ticks(1), 0);
        due.is("TICK", x.count(0), 1);
        x = Doors.busy();
        x.off(0);
        due.is("one that was called off ahead of it does not count", x.ticks(1), 0);
    }
}
