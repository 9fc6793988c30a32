/** Full: 8 SERVERS, 200 CALLS, ROOM taken up, 20000 TICKS, and the 512 calls of an object. */
public final class FullTest {
    private static final Due due = new Due();

    public static void main(String[] args) {
        eightServers();
        eightServersWithGoneOnes();
        twoHundredCalls();
        twoHundredEndedCalls();
        roomTakenUp();
        roomOfATryingOne();
        everyTick();
        tickByTick();
        behindTheLastTick();
        outBeyondTheLastTick();
        againsUpToAllCalls();
        sharesOfAll();
        allAtOnce();
        fiveHundredAndTwelve();
        due.end();
    }

    private static void eightServers() {
        due.says("Terms", "SERVERS have numbers from 0 on (8 at most)");
        FrontDoor x = new FrontDoor();
        for (int k = 0; k < 8; k++) {
            due.is("its number", x.server(1, 0, 1, 1, 0), k);
        }
        due.says("Promise 2", "A SERVER, WELL: its number. -1 ZONE; -4; -6 (8, too).");
        due.refused(x, "a ninth", -6, () -> x.server(1, 0, 1, 1, 0));
        due.refused(x, "a ninth once more", -6, () -> x.server(1, 0, 1, 1, 0));
        due.refused(x, "a ninth with WEIGHT 101", -6, () -> x.server(101, 0, 1, 1, 0));
        due.refused(x, "a ninth with WEIGHT 0", -4, () -> x.server(0, 0, 1, 1, 0));
        due.refused(x, "a ninth with ZONE 4", -1, () -> x.server(1, 4, 1, 1, 0));
        due.is("SERVER 8", x.serverOf(8, 0), -1);
        due.is("SERVER 7", x.serverOf(7, 0), 0);
        due.is("SERVERS", x.count(1), 8);
    }

    private static void eightServersWithGoneOnes() {
        due.says("Promise 2", "-6 (8, too).");
        FrontDoor x = Doors.with(8, 1, 1, 0);
        for (int k = 0; k < 8; k++) {
            x.drain(k);
        }
        due.is("GONE ones keep their numbers", x.server(1, 0, 1, 1, 0), -6);
        due.is("SERVERS", x.count(1), 8);
        due.is("none may", x.pick(0), -9);
    }

    private static void twoHundredCalls() {
        due.says("Promise 10", "ticks above 2000, 200 CALLS.");
        FrontDoor x = new FrontDoor();
        for (int n = 0; n < 200; n++) {
            due.is("its number", x.call(0, n % 4, 2000 - n, false), n);
        }
        due.refused(x, "one more", -6, () -> x.call(0, 0, 1, false));
        due.refused(x, "one more with KEY 65536", -6, () -> x.call(65536, 0, 1, false));
        due.refused(x, "one more with KEY -1", -4, () -> x.call(-1, 0, 1, false));
        due.refused(x, "one more with GRADE -1", -4, () -> x.call(0, -1, 1, false));
        due.refused(x, "one more with ticks 0", -4, () -> x.call(0, 0, 0, false));
        due.is("CALLS", x.count(2), 200);
        due.is("all QUEUED", x.count(3), 200);
        due.says("Promise 17", "Place i of THE QUEUE (0: who is asked first); -9 if there is none.");
        for (int i = 0; i < 200; i++) {
            // Of each GRADE the DUES fall with the numbers.
            due.is("queue(" + i + ")", x.queue(i), 199 - i / 50 - 4 * (i % 50));
        }
        due.is("queue(200)", x.queue(200), -9);
    }

    private static void twoHundredEndedCalls() {
        due.says("Terms", "CALLS have numbers from 0 on (200 at most)");
        FrontDoor x = Doors.with(8, 20, 1, 0);
        for (int n = 0; n < 200; n++) {
            x.call(0, 0, 5, false);
        }
        due.is("160 at once", x.ticks(1), 160);
        due.is("40 from THE QUEUE", x.ticks(1), 40);
        due.is("ANSWERED", x.count(5), 200);
        due.is("one more, though all have ended", x.call(0, 0, 1, false), -6);
        x.rule(1);
        due.is("pick tells of SERVERS, not of CALLS", x.pick(0), 0);
    }

    private static void roomTakenUp() {
        due.says("Terms", "has fewer OPEN ASKINGS than ROOM");
        FrontDoor x = Doors.with(8, 20, 200, 0);
        for (int n = 0; n < 160; n++) {
            x.call(0, 0, 2000, true);
        }
        for (int k = 0; k < 8; k++) {
            due.is("OPEN ASKINGS of " + k, x.serverOf(k, 1), 20);
        }
        due.is("none may", x.pick(0), -9);
        x.call(0, 0, 2000, true);
        due.is("QUEUED", x.callOf(160, 0), 0);
        due.is("OPEN ASKINGS of all", x.count(17), 160);
        x.hedge(1);
        x.ticks(1);
        due.is("no second one where ROOM is taken up", x.count(10), 0);
        due.is("THE QUEUE waits", x.queue(0), 160);
        x.off(159);
        due.is("one has left", x.pick(0), 7);
        x.ticks(1);
        due.is("THE QUEUE gives it", x.callOf(160, 6), 7);
        due.is("taken up again", x.pick(0), -9);
    }

    private static void roomOfATryingOne() {
        due.says("Terms", "TRYING without any");
        FrontDoor x = Doors.with(1, 20, 200, 0);
        for (int n = 0; n < 20; n++) {
            x.call(0, 0, 2000, false);
        }
        due.is("drain", x.drain(0), 20);
        x.back(0);
        for (int n = 0; n < 19; n++) {
            x.off(n);
        }
        due.is("19 of 20 left, one is there", x.pick(0), -9);
        x.off(19);
        due.is("none is there", x.pick(0), 0);
    }

    private static void everyTick() {
        due.says("What it is", "TICKS go on from 0 (20000 at most).");
        FrontDoor x = new FrontDoor();
        due.is("TICK at first", x.count(0), 0);
        due.is("all at once", x.ticks(20000), 0);
        due.is("TICK", x.count(0), 20000);
        due.says("Promise 12", "-4 below 1; -6 above 20000 in all.");
        due.refused(x, "one more", -6, () -> x.ticks(1));
        due.refused(x, "the greatest int more", -6, () -> x.ticks(Integer.MAX_VALUE));
        due.refused(x, "none", -4, () -> x.ticks(0));
        due.refused(x, "the least int", -4, () -> x.ticks(Integer.MIN_VALUE));
    }

    private static void tickByTick() {
        due.says("Promise 12", "-6 above 20000 in all.");
        FrontDoor x = new FrontDoor();
        x.ticks(1);
        due.is("20000 and 1", x.ticks(20000), -6);
        due.is("19999 and 1", x.ticks(19998), 0);
        due.is("two where one is left", x.ticks(2), -6);
        due.is("none of them passed", x.count(0), 19999);
        due.is("the last", x.ticks(1), 0);
        due.is("none is left", x.ticks(1), -6);
        due.is("TICK", x.count(0), 20000);
    }

    private static void behindTheLastTick() {
        due.says("Promise 10", "A CALL comes, with DUE so many TICKS (1 .. 2000) from now: its number.");
        FrontDoor x = Doors.with(1, 1, 1, 0);
        x.ticks(20000);
        due.is("a CALL still comes", x.call(0, 0, 2000, true), 0);
        due.is("its DUE", x.callOf(0, 3), 22000);
        due.is("the TICK in which it came", x.callOf(0, 9), 20000);
        due.is("it is OPEN", x.callOf(0, 0), 1);
        due.is("no TICK passes", x.ticks(1), -6);
        due.is("it is called off", x.off(0), 1);
        due.is("in TICK 20000", x.callOf(0, 10), 20000);
    }

    private static void outBeyondTheLastTick() {
        due.says("Promise 15", "6 the TICK up to which it is OUT (-9)");
        FrontDoor x = Doors.with(2, 1, 9, 0);
        x.limit(1);
        x.ticks(19999);
        x.call(0, 0, 1, false);
        due.is("its DUE is the last TICK", x.ticks(1), 1);
        due.is("OUT", x.serverOf(0, 0), 1);
        due.is("up to a TICK that never comes", x.serverOf(0, 6), 20010);
    }

    private static void againsUpToAllCalls() {
        due.says("Terms", "is not above BUDGET (0 .. 100; 20 at first) times CALLS that came so far");
        FrontDoor x = Doors.with(8, 20, 1, 1);
        x.limit(10);
        x.budget(100);
        for (int n = 0; n < 200; n++) {
            x.call(0, 0, 2000, true);
        }
        x.ticks(1999);
        due.is("200 AGAINS of 200 CALLS", x.count(9), 200);
        due.holds("the others FAILED", x.count(6) > 0);
        x.ticks(1);
        due.is("all ended", x.count(5) + x.count(6) + x.count(7), 200);
    }

    private static void sharesOfAll() {
        due.says("Promise 18", "How many in 1000 of all ASKINGS so far a SERVER had (cut; 0 without any). -1.");
        FrontDoor x = new FrontDoor();
        x.server(100, 0, 20, 1, 0);
        x.server(1, 0, 20, 1, 0);
        x.rule(2);
        x.call(Doors.TO_1, 0, 9, false);
        due.is("the only one so far", x.share(1) * 10000 + x.share(0), 10000000);
        for (int n = 1; n < 200; n++) {
            x.call(Doors.TO_0, 0, 9, false);
            x.ticks(1);
        }
        due.is("199 of 200", x.share(0), 995);
        due.is("1 of 200", x.share(1), 5);
        x = Doors.with(7, 20, 1, 0);
        for (int n = 0; n < 7; n++) {
            x.call(0, 0, 9, false);
        }
        due.is("1 of 7, cut", x.share(6), 142);
    }

    private static void allAtOnce() {
        due.says("Promise 19", "3 QUEUED, 4 OPEN, 5 ANSWERED, 6 FAILED, 7 TURNED away, 8 ASKINGS so far");
        FrontDoor x = Doors.with(8, 20, 200, 0);
        x.rule(1);
        x.hedge(500);
        for (int n = 0; n < 200; n++) {
            x.call(n, n % 4, n < 160 ? 2000 : 199, true);
        }
        due.is("OPEN", x.count(4), 160);
        due.is("QUEUED", x.count(3), 40);
        due.is("QUEUED ones' DUE", x.ticks(199), 40);
        due.is("OPEN ones' answers", x.ticks(1), 160);
        int[] want = {200, 8, 200, 0, 0, 160, 0, 40, 160, 0, 0, 0, 0, 0, 0, 0, 0, 0};
        for (int what = 0; what < want.length; what++) {
            due.is("count(" + what + ")", x.count(what), want[what]);
        }
        due.is("nothing is left", x.ticks(19800), 0);
    }

    private static void fiveHundredAndTwelve() {
        due.says("What it is", "An object is used for at most 512 calls after it has been made");
        FrontDoor x = new FrontDoor();
        for (int n = 1; n <= 511; n++) {
            due.is("refused call " + n, x.rule(4), -1);
        }
        due.is("the 512th", x.count(11), 511);
        x = Doors.with(8, 20, 1, 0);
        for (int n = 0; n < 200; n++) {
            x.call(n, 0, 9, true);
            x.ticks(1);
        }
        for (int n = 409; n <= 511; n++) {
            due.is("call " + n + " on the object", x.callOf(n - 409, 0), 2);
        }
        due.is("the 512th on the object", x.count(5), 200);
    }
}
