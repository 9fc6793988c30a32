/** Promise 2 server; 3 set; 4 drain; 5 back; 15 serverOf; 16 mark; 18 share. */
public final class ServersTest {
    private static final Due due = new Due();

    public static void main(String[] args) {
        server();
        set();
        setHoldsForLaterAskings();
        drainAndBack();
        drainWithOpenOnes();
        backForgetsFailures();
        marks();
        share();
        due.end();
    }

    private static void server() {
        FrontDoor x = new FrontDoor();
        due.is("least", x.server(1, 0, 1, 1, 0), 0);
        due.is("greatest", x.server(100, 3, 20, 200, 20), 1);
        int[] fresh = {0, 0, 0, 0, 0, 0, -9, 10, 0, 1000000000, 100, 3, 20, 200, 20, 0};
        for (int what = 0; what < fresh.length; what++) {
            due.is("fresh serverOf(1, " + what + ")", x.serverOf(1, what), fresh[what]);
        }
        for (int k = 2; k < 8; k++) {
            due.is("server " + k, x.server(1, 1, 1, 1, 1), k);
        }
        due.is("a ninth", x.server(1, 1, 1, 1, 1), -6);
        due.is("count(1)", x.count(1), 8);
    }

    private static void set() {
        FrontDoor x = new FrontDoor();
        x.server(5, 2, 6, 7, 8);
        int[] was = {5, 6, 7, 8, 0};
        int[] least = {1, 1, 1, 0, 0};
        int[] most = {100, 20, 200, 20, 1};
        for (int what = 0; what < 5; what++) {
            due.is("set to most " + what, x.set(0, what, most[what]), was[what]);
            due.is("above " + what, x.set(0, what, most[what] + 1), -6);
            due.is("set to least " + what, x.set(0, what, least[what]), most[what]);
            due.is("below " + what, x.set(0, what, least[what] - 1), -4);
            due.is("shown " + what, x.serverOf(0, what == 0 ? 10 : 11 + what), least[what]);
        }
        due.is("ZONE kept", x.serverOf(0, 11), 2);
        x.call(0, 0, 50, false);
        x.drain(0);
        due.is("set of a DRAINING one", x.set(0, 1, 4), 1);
        x.off(0);
        x.ticks(1);
        due.is("set of a GONE one", x.set(0, 1, 4), -3);
        due.is("kept", x.serverOf(0, 12), 4);
    }

    private static void setHoldsForLaterAskings() {
        FrontDoor x = new FrontDoor();
        x.server(1, 0, 9, 5, 0);
        x.call(0, 0, 50, false);
        x.set(0, 2, 2);
        x.call(0, 0, 50, false);
        due.is("the later one's PACE", x.ticks(2), 1);
        due.is("it is the later one", x.callOf(1, 0), 2);
        due.is("the earlier one's PACE", x.ticks(2), 0);
        due.is("as it was then", x.ticks(1), 1);

        x = new FrontDoor();
        x.server(1, 0, 9, 2, 0);
        x.set(0, 4, 1);
        x.call(0, 0, 9, false);
        x.set(0, 4, 0);
        x.call(0, 0, 9, false);
        due.is("begun when MUTE no more", x.ticks(2), 1);
        due.is("answered", x.callOf(1, 0), 2);
        due.is("begun as it was MUTE", x.ticks(6), 0);
        due.is("till its DUE", x.ticks(1), 1);
        due.is("has FAILED", x.callOf(0, 0), 3);

        x = new FrontDoor();
        x.server(1, 0, 9, 2, 2);
        x.call(0, 0, 9, false);
        x.call(0, 0, 9, false);
        x.call(0, 0, 9, false);
        x.call(0, 0, 9, false);
        due.is("all over", x.ticks(2), 4);
        due.is("1 of BREAKS 2", x.callOf(0, 0), 2);
        due.is("2 of BREAKS 2", x.callOf(1, 0), 3);
        due.is("3 of BREAKS 2", x.callOf(2, 0), 2);
        due.is("4 of BREAKS 2", x.callOf(3, 0), 3);
        x.set(0, 3, 5);
        x.call(0, 0, 9, false);
        x.ticks(2);
        due.is("5 of BREAKS 5", x.callOf(4, 0), 3);
    }

    private static void drainAndBack() {
        FrontDoor x = new FrontDoor();
        x.server(1, 0, 2, 3, 0);
        due.is("back of a WELL one", x.back(0), -3);
        due.is("drain without OPEN ASKINGS", x.drain(0), 0);
        due.is("is GONE", x.serverOf(0, 0), 4);
        due.is("drain of a GONE one", x.drain(0), -3);
        due.is("may not", x.pick(0), -9);
        due.is("back", x.back(0), 1);
        due.is("is TRYING", x.serverOf(0, 0), 2);
        due.is("back of a TRYING one", x.back(0), -3);
        due.is("may", x.pick(0), 0);
        x.call(0, 0, 9, false);
        due.is("TRYING with one may not", x.pick(0), -9);
        x.ticks(3);
        due.is("an answer: WELL", x.serverOf(0, 0), 0);
        due.is("no such", x.drain(1) + x.back(1) + x.drain(-1) + x.back(-1), -4);
    }

    private static void drainWithOpenOnes() {
        FrontDoor x = new FrontDoor();
        x.server(1, 0, 3, 3, 0);
        x.call(0, 0, 9, false);
        x.call(0, 0, 9, false);
        due.is("drain", x.drain(0), 2);
        due.is("is DRAINING", x.serverOf(0, 0), 3);
        due.is("drain again", x.drain(0), -3);
        x.call(0, 0, 9, false);
        due.is("gets no more", x.callOf(2, 0), 0);
        due.is("loses none", x.ticks(3), 2);
        due.is("both answered", x.count(5), 2);
        due.is("then GONE", x.serverOf(0, 0), 4);

        x = new FrontDoor();
        x.server(1, 0, 3, 3, 0);
        x.call(0, 0, 9, false);
        x.drain(0);
        x.off(0);
        due.is("DRAINING till a TICK passes", x.serverOf(0, 0), 3);
        x.ticks(1);
        due.is("GONE as it passed", x.serverOf(0, 0), 4);

        x = new FrontDoor();
        x.server(1, 0, 3, 3, 0);
        x.call(0, 0, 9, false);
        x.drain(0);
        due.is("back of a DRAINING one", x.back(0), 1);
        due.is("TRYING", x.serverOf(0, 0), 2);
        due.is("with one OPEN: may not", x.pick(0), -9);
        x.ticks(3);
        due.is("WELL", x.serverOf(0, 0), 0);
    }

    private static void backForgetsFailures() {
        FrontDoor x = new FrontDoor();
        x.server(1, 0, 3, 1, 1);
        x.server(1, 0, 3, 1, 0);
        x.limit(2);
        x.rule(2);
        x.call(40503, 0, 9, false);
        x.call(40503, 0, 9, false);
        x.ticks(1);
        due.is("OUT", x.serverOf(0, 0), 1);
        due.is("up to", x.serverOf(0, 6), 11);
        due.is("PENALTY next", x.serverOf(0, 7), 20);
        due.is("drain of an OUT one", x.drain(0), 0);
        due.is("OUT no more", x.serverOf(0, 6), -9);
        due.is("back", x.back(0), 1);
        due.is("PENALTY 10", x.serverOf(0, 7), 10);
        due.is("FAILURES in all stay", x.serverOf(0, 4), 2);
        due.is("once OUT", x.serverOf(0, 8), 1);

        x = new FrontDoor();
        x.server(1, 0, 3, 1, 1);
        x.call(0, 0, 9, false);
        x.ticks(1);
        due.is("one FAILURE in a row", x.serverOf(0, 5), 1);
        x.drain(0);
        due.is("GONE with it", x.serverOf(0, 5), 1);
        x.back(0);
        due.is("none in a row", x.serverOf(0, 5), 0);
        due.is("one in all", x.serverOf(0, 4), 1);
    }

    private static void marks() {
        FrontDoor x = new FrontDoor();
        for (int k = 0; k < 8; k++) {
            x.server(1, 0, 1, 1, 0);
        }
        for (int k = 0; k < 8; k++) {
            for (int m = 0; m < 4; m++) {
                due.is("mark(" + k + ", " + m + ")", x.mark(k, m), (int) (40503L * (4 * k + m + 1) % 65536));
            }
        }
        due.is("mark(7, 3)", x.mark(7, 3), 50912);
        due.is("mark(0, 4)", x.mark(0, 4), -2);
        due.is("mark(0, -1)", x.mark(0, -1), -2);
        due.is("mark(8, 4)", x.mark(8, 4), -1);
        due.is("mark(-1, 0)", x.mark(-1, 0), -1);
        x.drain(3);
        due.is("a GONE one's", x.mark(3, 0), 40503 * 13 % 65536);
    }

    private static void share() {
        FrontDoor x = new FrontDoor();
        x.server(2, 0, 20, 1, 0);
        x.server(1, 0, 20, 1, 0);
        due.is("without any", x.share(0), 0);
        for (int n = 0; n < 3; n++) {
            x.call(0, 0, 9, false);
        }
        due.is("2 of 3, cut", x.share(0), 666);
        due.is("1 of 3, cut", x.share(1), 333);
        x.ticks(1);
        due.is("so far, not OPEN", x.share(0), 666);
        due.is("share(2)", x.share(2), -1);
        due.is("share(-1)", x.share(-1), -1);
        due.is("refused", x.count(11), 2);
    }
}
