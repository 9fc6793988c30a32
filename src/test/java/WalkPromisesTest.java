import java.io.IOException;

/** Promises 1 to 19, sentence by sentence in the document's order. */
public final class WalkPromisesTest {
    private static final Due due = new Due();
    private static final int TO_0 = Doors.TO_0;
    private static Walk doc;

    public static void main(String[] args) throws IOException {
        doc = new Walk(due, "Promise 1:", "Not promised");
        newObject();
        server();
        set();
        drain();
        back();
        rule();
        limit();
        budget();
        hedge();
        call();
        off();
        ticks();
        pick();
        callOf();
        serverOf();
        mark();
        queue();
        share();
        count();
        doc.end();
        due.end();
    }

    private static void newObject() {
        doc.says("No SERVERS; RULE 0, HEDGE 0.");
        FrontDoor x = new FrontDoor();
        for (int what = 0; what <= 17; what++) {
            due.is("count(" + what + ")", x.count(what), 0);
        }
        due.is("RULE", x.rule(0), 0);
        due.is("HEDGE", x.hedge(0), 0);
    }

    private static void server() {
        doc.says("A SERVER, WELL: its number.");
        FrontDoor x = new FrontDoor();
        due.is("the first", x.server(7, 2, 5, 9, 4), 0);
        due.is("the second", x.server(7, 2, 5, 9, 4), 1);
        int[] shown = {0, 0, 0, 0, 0, 0, -9, 10, 0, 1000000000, 7, 2, 5, 9, 4, 0};
        for (int what = 0; what < shown.length; what++) {
            due.is("serverOf(1, " + what + ")", x.serverOf(1, what), shown[what]);
        }
        doc.says("-1 ZONE; -4; -6 (8, too).");
        due.refused(x, "ZONE -1", -1, () -> x.server(0, -1, 0, 0, -1));
        due.refused(x, "ZONE 4", -1, () -> x.server(101, 4, 21, 201, 21));
        due.refused(x, "WEIGHT 0", -4, () -> x.server(0, 0, 21, 201, 21));
        due.refused(x, "ROOM 0", -4, () -> x.server(101, 0, 0, 201, 21));
        due.refused(x, "PACE 0", -4, () -> x.server(101, 0, 21, 0, 21));
        due.refused(x, "BREAKS -1", -4, () -> x.server(101, 0, 21, 201, -1));
        due.refused(x, "WEIGHT 101", -6, () -> x.server(101, 0, 1, 1, 0));
        due.refused(x, "ROOM 21", -6, () -> x.server(1, 0, 21, 1, 0));
        due.refused(x, "PACE 201", -6, () -> x.server(1, 0, 1, 201, 0));
        due.refused(x, "BREAKS 21", -6, () -> x.server(1, 0, 1, 1, 21));
        FrontDoor full = Doors.with(8, 1, 1, 0);
        due.refused(full, "8", -6, () -> full.server(1, 0, 1, 1, 0));
    }

    private static void set() {
        doc.says("What of a SERVER: 0 WEIGHT, 1 ROOM, 2 PACE, 3 BREAKS, 4 MUTE (0, 1) becomes v: what it was.");
        FrontDoor x = new FrontDoor();
        x.server(7, 2, 5, 9, 4);
        int[] was = {7, 5, 9, 4, 0};
        int[] v = {100, 20, 200, 20, 1};
        int[] shownAt = {10, 12, 13, 14, 15};
        for (int what = 0; what < 5; what++) {
            due.is("set(0, " + what + ", ..)", x.set(0, what, v[what]), was[what]);
            due.is("what it is then, " + what, x.serverOf(0, shownAt[what]), v[what]);
            due.is("set again, " + what, x.set(0, what, was[what]), v[what]);
        }
        due.is("ZONE stays", x.serverOf(0, 11), 2);
        doc.says("-1; -2; -3 GONE; -4; -6.");
        FrontDoor y = Doors.busy();
        due.refused(y, "no such SERVER", -1, () -> y.set(5, 9, 0));
        due.refused(y, "no such what", -2, () -> y.set(3, 5, 0));
        due.refused(y, "GONE", -3, () -> y.set(3, 0, 0));
        FrontDoor z = Doors.busy();
        for (int what = 0; what < 5; what++) {
            int at = what;
            due.refused(z, "below, " + what, -4, () -> z.set(2, at, at < 3 ? 0 : -1));
            due.refused(z, "above, " + what, -6, () -> z.set(2, at, v[at] + 1));
        }
    }

    private static void drain() {
        doc.says("A SERVER that is not GONE is DRAINING (GONE at once without OPEN ASKINGS): how many those are.");
        FrontDoor x = Doors.with(2, 20, 9, 0);
        x.rule(2);
        x.call(TO_0, 0, 20, false);
        x.call(TO_0, 0, 20, false);
        due.is("with two", x.drain(0), 2);
        due.is("DRAINING", x.serverOf(0, 0), 3);
        due.is("without", x.drain(1), 0);
        due.is("GONE", x.serverOf(1, 0), 4);
        doc.says("-1; -3 (also if it is DRAINING).");
        due.refused(x, "nobody", -1, () -> x.drain(2));
        due.refused(x, "DRAINING", -3, () -> x.drain(0));
        due.refused(x, "GONE", -3, () -> x.drain(1));
    }

    private static void back() {
        doc.says("One that is DRAINING, or GONE, is TRYING (FAILURES 0, PENALTY 10): 1.");
        FrontDoor x = Doors.with(2, 20, 1, 1);
        x.rule(2);
        x.limit(1);
        x.call(TO_0, 0, 20, false);
        x.set(0, 2, 20);
        x.call(TO_0, 0, 3, false);
        x.call(TO_0, 0, 90, false);
        x.ticks(3);
        due.is("OUT", x.serverOf(0, 0), 1);
        due.is("in a row", x.serverOf(0, 5), 1);
        due.is("PENALTY", x.serverOf(0, 7), 20);
        x.drain(0);
        x.drain(1);
        due.is("DRAINING", x.back(0), 1);
        due.is("is TRYING", x.serverOf(0, 0), 2);
        due.is("in a row 0", x.serverOf(0, 5), 0);
        due.is("in all", x.serverOf(0, 4), 2);
        due.is("PENALTY 10", x.serverOf(0, 7), 10);
        due.is("up to no TICK", x.serverOf(0, 6), -9);
        due.is("GONE", x.back(1), 1);
        due.is("is TRYING, too", x.serverOf(1, 0), 2);
        doc.says("-1; -3.");
        FrontDoor y = Doors.busy();
        due.refused(y, "nobody", -1, () -> y.back(5));
        due.refused(y, "WELL", -3, () -> y.back(0));
        due.refused(y, "OUT", -3, () -> y.back(1));
        due.refused(y, "TRYING", -3, () -> y.back(4));
    }

    private static void rule() {
        doc.says("RULE: what it was.");
        FrontDoor x = new FrontDoor();
        due.is("rule(3)", x.rule(3), 0);
        due.is("rule(0)", x.rule(0), 3);
        doc.says("-1.");
        due.refused(x, "rule(-1)", -1, () -> x.rule(-1));
        due.refused(x, "rule(4)", -1, () -> x.rule(4));
        due.is("as before", x.rule(1), 0);
    }

    private static void limit() {
        doc.says("LIMIT: what it was.");
        FrontDoor x = new FrontDoor();
        due.is("limit(1)", x.limit(1), 3);
        due.is("limit(10)", x.limit(10), 1);
        doc.says("-4; -6.");
        due.refused(x, "limit(0)", -4, () -> x.limit(0));
        due.refused(x, "limit(11)", -6, () -> x.limit(11));
        due.is("as before", x.limit(3), 10);
    }

    private static void budget() {
        doc.says("BUDGET: what it was.");
        FrontDoor x = new FrontDoor();
        due.is("budget(0)", x.budget(0), 20);
        due.is("budget(100)", x.budget(100), 0);
        doc.says("-4; -6.");
        due.refused(x, "budget(-1)", -4, () -> x.budget(-1));
        due.refused(x, "budget(101)", -6, () -> x.budget(101));
        due.is("as before", x.budget(3), 100);
    }

    private static void hedge() {
        doc.says("HEDGE: what it was.");
        FrontDoor x = new FrontDoor();
        due.is("hedge(500)", x.hedge(500), 0);
        due.is("hedge(0)", x.hedge(0), 500);
        doc.says("-4; -6.");
        due.refused(x, "hedge(-1)", -4, () -> x.hedge(-1));
        due.refused(x, "hedge(501)", -6, () -> x.hedge(501));
        due.is("as before", x.hedge(3), 0);
    }

    private static void call() {
        doc.says("A CALL comes, with DUE so many TICKS (1 .. 2000) from now: its number.");
        FrontDoor x = new FrontDoor();
        x.ticks(7);
        due.is("the first", x.call(9, 2, 1, true), 0);
        due.is("the second", x.call(9, 2, 2000, true), 1);
        due.is("DUE 1 from now", x.callOf(0, 3), 8);
        due.is("DUE 2000 from now", x.callOf(1, 3), 2007);
        doc.says("-4 key, grade below 0, ticks below 1;");
        due.refused(x, "key", -4, () -> x.call(-1, 4, 2001, true));
        due.refused(x, "grade", -4, () -> x.call(65536, -1, 2001, true));
        due.refused(x, "ticks", -4, () -> x.call(65536, 4, 0, true));
        doc.says("-6 key above 65535, grade above 3, ticks above 2000, 200 CALLS.");
        due.refused(x, "key", -6, () -> x.call(65536, 0, 1, true));
        due.refused(x, "grade", -6, () -> x.call(0, 4, 1, true));
        due.refused(x, "ticks", -6, () -> x.call(0, 0, 2001, true));
        FrontDoor full = new FrontDoor();
        for (int n = 0; n < 200; n++) {
            full.call(0, 0, 1, false);
        }
        due.is("200 CALLS", full.call(0, 0, 1, false), -6);
        due.is("and below ahead of it", full.call(0, 0, 0, false), -4);
        due.is("CALLS", full.count(2), 200);
    }

    private static void off() {
        doc.says("A CALL that is QUEUED or OPEN is called off: it is TURNED away (its ASKINGS are neither answers nor"
            + " FAILURES): 1.");
        FrontDoor x = Doors.with(2, 1, 9, 0);
        x.hedge(1);
        x.call(0, 0, 20, true);
        x.ticks(1);
        x.call(0, 0, 20, true);
        due.is("QUEUED", x.off(1), 1);
        due.is("TURNED away", x.callOf(1, 0), 4);
        due.is("THE QUEUE", x.queue(0), -9);
        due.is("OPEN with two ASKINGS", x.off(0), 1);
        due.is("TURNED away, too", x.callOf(0, 0), 4);
        due.is("in TICK", x.callOf(0, 10), 1);
        due.is("none comes back", x.ticks(30), 0);
        for (int k = 0; k < 2; k++) {
            due.is("OPEN ASKINGS", x.serverOf(k, 1), 0);
            due.is("answers", x.serverOf(k, 3), 0);
            due.is("FAILURES", x.serverOf(k, 4), 0);
        }
        doc.says("-1; -3.");
        due.refused(x, "nobody", -1, () -> x.off(2));
        due.refused(x, "ended", -3, () -> x.off(0));
    }

    private static void ticks() {
        doc.says("n TICKS pass: how many CALLS ended.");
        FrontDoor x = Doors.with(1, 2, 3, 2);
        x.call(0, 0, 20, false);
        x.call(0, 0, 20, false);
        x.call(0, 0, 2, false);
        x.call(0, 0, 20, false);
        x.off(3);
        due.is("one TURNED away", x.ticks(2), 1);
        due.is("one ANSWERED, one FAILED", x.ticks(1), 2);
        due.is("none", x.ticks(5), 0);
        due.is("TICK", x.count(0), 8);
        doc.says("-4 below 1; -6 above 20000 in all.");
        due.refused(x, "0", -4, () -> x.ticks(0));
        due.refused(x, "one too many", -6, () -> x.ticks(19993));
        due.refused(x, "far too many", -6, () -> x.ticks(Integer.MAX_VALUE));
        due.is("just as many", x.ticks(19992), 0);
        due.is("TICK then", x.count(0), 20000);
    }

    private static void pick() {
        doc.says("The SERVER that would be PICKED for a new CALL with a KEY now;");
        FrontDoor x = new FrontDoor();
        x.server(2, 0, 1, 9, 0);
        x.server(1, 1, 1, 9, 0);
        for (int r = 0; r < 4; r++) {
            x.rule(r);
            int told = x.pick(5);
            int c = x.call(5, 0, 9, false);
            due.is("RULE " + r, x.callOf(c, 6), told);
            x.off(c);
        }
        doc.says("-9 none may (it would be QUEUED).");
        x.call(5, 0, 9, false);
        x.call(5, 0, 9, false);
        due.is("none may", x.pick(5), -9);
        due.is("QUEUED", x.callOf(x.call(5, 0, 9, false), 0), 0);
        doc.says("Nothing changes.");
        FrontDoor y = Doors.busy();
        String before = Due.picture(y);
        y.set(0, 1, 20);
        y.pick(0);
        y.pick(65535);
        y.set(0, 1, 2);
        due.holds("CREDITS, THE QUEUE and all else", before.equals(Due.picture(y)));
        doc.says("-4; -6.");
        due.refused(y, "pick(-1)", -4, () -> y.pick(-1));
        due.refused(x, "pick(65536)", -6, () -> x.pick(65536));
    }

    private static void callOf() {
        doc.says("Of a CALL: 0 what it is, 1 KEY, 2 GRADE, 3 DUE, 4 1 if SAFE, 5 how many ASKINGS it has now, 6 the SERVER"
            + " of its first ASKING (now; of an ANSWERED one: that which answered; -9), 7 of its second (-9), 8 TRIED as"
            + " bits, 9 the TICK in which it came, 10 in which it ended (-9).");
        FrontDoor x = new FrontDoor();
        x.server(1, 0, 20, 9, 0);
        x.server(1, 0, 20, 3, 0);
        x.server(1, 0, 20, 9, 0);
        x.rule(2);
        x.hedge(2);
        x.ticks(5);
        x.call(TO_0, 3, 30, true);
        shown(x, "one ASKING", new int[] {1, TO_0, 3, 35, 1, 1, 0, -9, 1, 5, -9});
        x.ticks(2);
        shown(x, "two", new int[] {1, TO_0, 3, 35, 1, 2, 0, 1, 3, 5, -9});
        x.ticks(3);
        shown(x, "ANSWERED by the second", new int[] {2, TO_0, 3, 35, 1, 0, 1, -9, 3, 5, 10});
        FrontDoor q = new FrontDoor();
        q.call(8, 1, 4, false);
        shown(q, "QUEUED", new int[] {0, 8, 1, 4, 0, 0, -9, -9, 0, 0, -9});
        q.ticks(4);
        shown(q, "TURNED away", new int[] {4, 8, 1, 4, 0, 0, -9, -9, 0, 0, 4});
        FrontDoor f = Doors.with(1, 1, 2, 1);
        f.call(8, 1, 4, false);
        f.ticks(2);
        shown(f, "FAILED", new int[] {3, 8, 1, 4, 0, 0, -9, -9, 1, 0, 2});
        doc.says("-1; -2.");
        due.refused(f, "nobody, no such what", -1, () -> f.callOf(1, 11));
        due.refused(f, "11", -2, () -> f.callOf(0, 11));
        due.refused(f, "-1", -2, () -> f.callOf(0, -1));
    }

    private static void shown(FrontDoor x, String when, int[] want) {
        for (int what = 0; what < want.length; what++) {
            due.is(when + ": callOf(0, " + what + ")", x.callOf(0, what), want[what]);
        }
    }

    private static void serverOf() {
        doc.says("Of a SERVER: 0 HEALTH, 1 OPEN ASKINGS, 2 ASKINGS so far, 3 answers, 4 FAILURES in all, 5 in a row, 6 the"
            + " TICK up to which it is OUT (-9), 7 PENALTY that it would have next, 8 how many times it was OUT, 9 CREDIT"
            + " and 1000000000, 10 WEIGHT, 11 ZONE, 12 ROOM, 13 PACE, 14 BREAKS, 15 1 if MUTE.");
        FrontDoor x = new FrontDoor();
        x.server(6, 3, 7, 2, 3);
        x.server(5, 3, 1, 90, 0);
        x.limit(1);
        for (int n = 0; n < 8; n++) {
            x.call(0, 0, 20, false);
        }
        x.set(0, 4, 1);
        due.is("ended", x.ticks(2), 7);
        // The third and the sixth ASKING failed: OUT at the third; the fourth and fifth came back to an OUT one.
        // CREDITS: 6 5 -> -5 5; 1 10 -> 1 -1; then 0 alone, 6 more and 6 less each time.
        int[] want = {1, 0, 7, 5, 2, 0, 12, 10, 1, 1000000001, 6, 3, 7, 2, 3, 1};
        for (int what = 0; what < want.length; what++) {
            due.is("serverOf(0, " + what + ")", x.serverOf(0, what), want[what]);
        }
        doc.says("-1; -2.");
        due.refused(x, "nobody, no such what", -1, () -> x.serverOf(2, 16));
        due.refused(x, "16", -2, () -> x.serverOf(0, 16));
        due.refused(x, "-1", -2, () -> x.serverOf(0, -1));
    }

    private static void mark() {
        doc.says("MARK m of a SERVER.");
        FrontDoor x = Doors.with(8, 1, 1, 0);
        due.is("the first", x.mark(0, 0), 40503);
        due.is("the last", x.mark(7, 3), 50912);
        doc.says("-1; -2 (no such MARK).");
        due.refused(x, "nobody, no such MARK", -1, () -> x.mark(8, 4));
        due.refused(x, "4", -2, () -> x.mark(0, 4));
        due.refused(x, "-1", -2, () -> x.mark(0, -1));
    }

    private static void queue() {
        doc.says("Place i of THE QUEUE (0: who is asked first);");
        FrontDoor x = new FrontDoor();
        x.call(0, 1, 20, false);
        x.call(0, 2, 20, false);
        due.is("queue(0)", x.queue(0), 1);
        due.is("queue(1)", x.queue(1), 0);
        doc.says("-9 if there is none.");
        due.refused(x, "queue(2)", -9, () -> x.queue(2));
        due.refused(x, "queue(-1)", -9, () -> x.queue(-1));
        x.server(1, 0, 1, 20, 0);
        x.ticks(1);
        due.is("who was asked first", x.callOf(1, 0), 1);
        due.is("who is left", x.queue(0), 0);
    }

    private static void share() {
        doc.says("How many in 1000 of all ASKINGS so far a SERVER had (cut; 0 without any).");
        FrontDoor x = Doors.with(2, 20, 1, 0);
        due.is("without any", x.share(0), 0);
        x.rule(2);
        x.call(TO_0, 0, 9, false);
        due.is("all", x.share(0), 1000);
        due.is("none", x.share(1), 0);
        x.call(TO_0, 0, 9, false);
        x.call(Doors.TO_1, 0, 9, false);
        due.is("2 of 3, cut", x.share(0), 666);
        due.is("1 of 3, cut", x.share(1), 333);
        x.ticks(1);
        due.is("they ended, and count", x.share(0), 666);
        doc.says("-1.");
        due.refused(x, "nobody", -1, () -> x.share(2));
    }

    private static void count() {
        doc.says("0 TICK, 1 SERVERS, 2 CALLS, 3 QUEUED, 4 OPEN, 5 ANSWERED, 6 FAILED, 7 TURNED away, 8 ASKINGS so far, 9"
            + " AGAINS, 10 second ASKINGS, 11 .. 16 REFUSALS -1 .. -6, 17 OPEN ASKINGS.");
        FrontDoor x = new FrontDoor();
        x.server(1, 0, 5, 1, 1);
        x.server(1, 0, 3, 2, 0);
        x.server(1, 0, 1, 90, 0);
        x.rule(2);
        x.limit(10);
        x.budget(25);
        for (int n = 0; n < 5; n++) {
            x.call(TO_0, 0, 50, n == 2);
        }
        x.off(1);
        // In TICK 1 the ASKINGS of CALLS 0, 2, 3 and 4 fail; 2 is SAFE, and asked again at SERVER 1 or 2.
        due.is("three FAILED", x.ticks(1), 3);
        x.hedge(1);
        due.is("HEDGING", x.ticks(1), 0);
        x.set(0, 1, 1);
        x.set(1, 1, 1);
        x.call(TO_0, 0, 50, false);
        x.call(TO_0, 0, 50, false);
        x.rule(4);
        x.serverOf(0, 16);
        x.serverOf(0, 17);
        x.off(1);
        x.limit(0);
        x.limit(-1);
        x.limit(11);
        int[] want = {2, 3, 7, 1, 2, 0, 3, 1, 8, 1, 1, 1, 2, 1, 2, 0, 1, 3};
        for (int what = 0; what < want.length; what++) {
            due.is("count(" + what + ")", x.count(what), want[what]);
        }
        doc.says("-9 for another what.");
        due.refused(x, "count(18)", -9, () -> x.count(18));
        due.refused(x, "count(-1)", -9, () -> x.count(-1));
    }
}
