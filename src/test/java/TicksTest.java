/** Promise 12 ticks: what passes in a TICK and in which order; FAILURES, OUT and PENALTY; AGAIN; HEDGING; THE QUEUE. */
public final class TicksTest {
    private static final Due due = new Due();
    /** A KEY at which the RING begins with SERVER 0, and one at which it begins with SERVER 1. */
    private static final int TO_0 = 40503;
    private static final int TO_1 = 5907;

    public static void main(String[] args) {
        howMany();
        dueOfAnOpenOne();
        answerInTheTickOfTheDue();
        limitAndAnswersBetween();
        limitLowered();
        penaltyGrows();
        penaltyIsForgotten();
        lateOnesOfAnOutServer();
        halfAreOut();
        tryingMayNotBeOut();
        again();
        againBudget();
        againNotInTheTickOfTheDue();
        hedging();
        hedgingOnlyThen();
        bothAskings();
        queueInATick();
        orderOfSteps();
        due.end();
    }

    private static FrontDoor two(int breaks0, int breaks1) {
        FrontDoor x = new FrontDoor();
        x.server(1, 0, 20, 2, breaks0);
        x.server(1, 0, 20, 2, breaks1);
        x.rule(2);
        return x;
    }

    private static void howMany() {
        FrontDoor x = new FrontDoor();
        due.is("ticks(0)", x.ticks(0), -4);
        due.is("ticks(MIN)", x.ticks(Integer.MIN_VALUE), -4);
        due.is("ticks(20001)", x.ticks(20001), -6);
        due.is("ticks(MAX)", x.ticks(Integer.MAX_VALUE), -6);
        due.is("none passed", x.count(0), 0);
        due.is("ticks(1)", x.ticks(1), 0);
        due.is("ticks(20000) then", x.ticks(20000), -6);
        due.is("ticks(MAX) then", x.ticks(Integer.MAX_VALUE), -6);
        x.call(0, 0, 2000, false);
        x.call(0, 0, 7, false);
        due.is("ticks(19999)", x.ticks(19999), 2);
        due.is("TICK", x.count(0), 20000);
        due.is("one more", x.ticks(1), -6);
        due.is("a CALL still comes", x.call(0, 0, 2000, false), 2);
        due.is("its DUE", x.callOf(2, 3), 22000);
    }

    private static void dueOfAnOpenOne() {
        FrontDoor x = new FrontDoor();
        x.server(1, 0, 20, 9, 0);
        x.call(0, 0, 4, true);
        due.is("not yet", x.ticks(3), 0);
        due.is("its DUE", x.ticks(1), 1);
        due.is("FAILED, and not AGAIN", x.callOf(0, 0), 3);
        due.is("a FAILURE", x.serverOf(0, 4), 1);
        due.is("in a row", x.serverOf(0, 5), 1);
        due.is("no answer", x.serverOf(0, 3), 0);
        due.is("not OPEN", x.serverOf(0, 1), 0);
        due.is("ended", x.callOf(0, 10), 4);
        due.is("nothing comes later", x.ticks(20), 0);
    }

    private static void answerInTheTickOfTheDue() {
        FrontDoor x = new FrontDoor();
        x.server(1, 0, 20, 4, 0);
        x.call(0, 0, 4, true);
        x.ticks(4);
        due.is("over is ahead of DUE", x.callOf(0, 0), 2);
    }

    private static void limitAndAnswersBetween() {
        FrontDoor x = two(0, 0);
        for (int n = 1; n <= 2; n++) {
            x.call(TO_0, 0, 1, false);
        }
        x.ticks(1);
        due.is("two in a row", x.serverOf(0, 5), 2);
        due.is("still WELL", x.serverOf(0, 0), 0);
        x.call(TO_0, 0, 9, false);
        x.ticks(2);
        due.is("an answer: none in a row", x.serverOf(0, 5), 0);
        due.is("two in all", x.serverOf(0, 4), 2);
        for (int n = 1; n <= 3; n++) {
            x.call(TO_0, 0, 1, false);
        }
        x.ticks(1);
        due.is("at LIMIT 3", x.serverOf(0, 0), 1);
        due.is("none in a row", x.serverOf(0, 5), 0);
        due.is("up to", x.serverOf(0, 6), 14);
        due.is("how many times", x.serverOf(0, 8), 1);
        due.is("may not", x.pick(TO_0), 1);
        x.ticks(9);
        due.is("OUT", x.serverOf(0, 0), 1);
        x.ticks(1);
        due.is("TRYING", x.serverOf(0, 0), 2);
        due.is("no TICK up to which", x.serverOf(0, 6), -9);
        due.is("may", x.pick(TO_0), 0);
    }

    private static void limitLowered() {
        FrontDoor x = two(0, 0);
        x.call(TO_0, 0, 1, false);
        x.call(TO_0, 0, 1, false);
        x.ticks(1);
        x.limit(1);
        due.is("no FAILURE, still WELL", x.serverOf(0, 0), 0);
        x.call(TO_0, 0, 1, false);
        x.ticks(1);
        due.is("above LIMIT is at it", x.serverOf(0, 0), 1);
    }

    private static void penaltyGrows() {
        FrontDoor x = two(1, 0);
        x.limit(1);
        int[] penalty = {10, 20, 40, 80, 160, 320, 320};
        for (int i = 0; i < penalty.length; i++) {
            due.is("PENALTY next " + i, x.serverOf(0, 7), penalty[i]);
            x.call(TO_0, 0, 9, false);
            x.ticks(2);
            due.is("OUT " + i, x.serverOf(0, 0), 1);
            due.is("till " + i, x.serverOf(0, 6), x.count(0) + penalty[i]);
            due.is("times " + i, x.serverOf(0, 8), i + 1);
            x.ticks(penalty[i]);
            due.is("TRYING " + i, x.serverOf(0, 0), 2);
        }
        due.is("FAILURES in all", x.serverOf(0, 4), 7);
        due.is("PENALTY next", x.serverOf(0, 7), 320);
    }

    private static void penaltyIsForgotten() {
        FrontDoor x = two(1, 0);
        x.limit(1);
        x.call(TO_0, 0, 9, false);
        x.ticks(12);
        due.is("TRYING", x.serverOf(0, 0), 2);
        due.is("PENALTY next", x.serverOf(0, 7), 20);
        x.set(0, 3, 0);
        x.call(TO_0, 0, 9, false);
        due.is("TRYING has one: another is picked", x.pick(TO_0), 1);
        x.ticks(2);
        due.is("WELL", x.serverOf(0, 0), 0);
        due.is("PENALTY 10 again", x.serverOf(0, 7), 10);
    }

    private static void lateOnesOfAnOutServer() {
        FrontDoor x = two(0, 0);
        x.limit(1);
        x.call(TO_0, 0, 1, false);
        x.call(TO_0, 0, 20, false);
        x.set(0, 2, 7);
        x.call(TO_0, 0, 3, false);
        x.call(TO_0, 0, 20, false);
        x.ticks(1);
        due.is("OUT up to", x.serverOf(0, 6), 11);
        due.is("with OPEN ASKINGS", x.serverOf(0, 1), 3);
        x.ticks(1);
        due.is("a late answer", x.serverOf(0, 3), 1);
        due.is("PENALTY 10 again", x.serverOf(0, 7), 10);
        due.is("but OUT", x.serverOf(0, 0), 1);
        x.ticks(1);
        due.is("a late FAILURE in a row", x.serverOf(0, 5), 1);
        due.is("OUT as long as told", x.serverOf(0, 6), 11);
        due.is("OUT once", x.serverOf(0, 8), 1);
        x.ticks(4);
        due.is("a late answer ends the row", x.serverOf(0, 5), 0);
        due.is("still OUT", x.serverOf(0, 0), 1);
    }

    private static void halfAreOut() {
        FrontDoor x = new FrontDoor();
        x.server(1, 0, 20, 2, 1);
        x.limit(2);
        x.call(0, 0, 9, false);
        x.ticks(2);
        due.is("one in a row", x.serverOf(0, 5), 1);
        x.call(0, 0, 9, false);
        x.ticks(2);
        due.is("one alone is never OUT", x.serverOf(0, 0), 0);
        due.is("but its row begins again", x.serverOf(0, 5), 0);
        due.is("never OUT", x.serverOf(0, 8), 0);
        due.is("PENALTY stays", x.serverOf(0, 7), 10);

        x = two(1, 1);
        x.server(1, 0, 20, 2, 0);
        x.limit(1);
        x.call(TO_0, 0, 9, false);
        x.call(TO_1, 0, 9, false);
        x.ticks(2);
        due.is("1 of 3 is OUT", x.serverOf(0, 0), 1);
        due.is("2 of 3 are not", x.serverOf(1, 0), 0);
        due.is("row 0", x.serverOf(1, 5), 0);
        x.server(1, 0, 20, 2, 0);
        x.call(TO_1, 0, 9, false);
        x.ticks(2);
        due.is("2 of 4 are OUT", x.serverOf(1, 0), 1);

        x = two(1, 1);
        x.server(1, 0, 20, 2, 0);
        x.server(1, 0, 20, 2, 0);
        x.drain(3);
        x.limit(1);
        x.call(TO_0, 0, 9, false);
        x.call(TO_1, 0, 9, false);
        x.ticks(2);
        due.is("a GONE one does not count", x.serverOf(1, 0), 0);
        due.is("so 1 of 3 is OUT", x.serverOf(0, 0), 1);
    }

    private static void tryingMayNotBeOut() {
        FrontDoor x = two(1, 1);
        x.limit(1);
        x.call(TO_0, 0, 9, false);
        x.ticks(2);
        due.is("0 is OUT", x.serverOf(0, 6), 12);
        x.ticks(10);
        due.is("0 is TRYING", x.serverOf(0, 0), 2);
        x.call(TO_1, 0, 9, false);
        x.call(TO_0, 0, 9, false);
        x.ticks(2);
        due.is("1 is OUT", x.serverOf(1, 0), 1);
        due.is("0 may not be OUT too: WELL", x.serverOf(0, 0), 0);
        due.is("0 was OUT once", x.serverOf(0, 8), 1);
        due.is("its PENALTY next", x.serverOf(0, 7), 20);
        due.is("only a WELL one's row becomes 0", x.serverOf(0, 5), 1);
    }

    private static void again() {
        FrontDoor x = two(1, 0);
        x.budget(100);
        x.call(TO_0, 0, 9, true);
        x.call(TO_0, 0, 9, false);
        due.is("the one that is not SAFE ends", x.ticks(2), 1);
        due.is("has FAILED", x.callOf(1, 0), 3);
        due.is("the SAFE one is OPEN again", x.callOf(0, 0), 1);
        due.is("at another", x.callOf(0, 6), 1);
        due.is("TRIED", x.callOf(0, 8), 3);
        due.is("AGAINS", x.count(9), 1);
        x.ticks(2);
        due.is("ANSWERED", x.callOf(0, 0), 2);

        x = new FrontDoor();
        x.server(1, 0, 20, 2, 1);
        x.budget(100);
        x.call(0, 0, 9, true);
        x.ticks(2);
        due.is("nobody is left: QUEUED", x.callOf(0, 0), 0);
        due.is("first ASKING now", x.callOf(0, 6), -9);
        due.is("in THE QUEUE", x.queue(0), 0);
        x.ticks(6);
        due.is("till its DUE", x.callOf(0, 0), 0);
        x.ticks(1);
        due.is("TURNED away", x.callOf(0, 0), 4);
        due.is("no FAILURE more", x.serverOf(0, 4), 1);
    }

    private static void againBudget() {
        FrontDoor x = two(1, 0);
        x.limit(10);
        for (int n = 0; n < 9; n++) {
            x.call(TO_0, 0, 9, true);
        }
        x.ticks(2);
        due.is("20 in 100 of 9 CALLS", x.count(9), 1);
        due.is("the first had it", x.callOf(0, 0), 1);
        due.is("the next FAILED", x.callOf(1, 0), 3);
        x.call(TO_0, 0, 9, true);
        x.ticks(2);
        due.is("just 20 in 100 of 10 CALLS", x.count(9), 2);
        x.budget(0);
        x.call(TO_0, 0, 9, true);
        x.ticks(2);
        due.is("BUDGET 0", x.count(9), 2);
    }

    private static void againNotInTheTickOfTheDue() {
        FrontDoor x = two(1, 0);
        x.budget(100);
        x.call(TO_0, 0, 2, true);
        x.call(TO_0, 0, 3, true);
        due.is("one ended", x.ticks(2), 1);
        due.is("failed in the TICK of its DUE", x.callOf(0, 0), 3);
        due.is("failed ahead of it", x.callOf(1, 0), 1);
        due.is("AGAINS", x.count(9), 1);
        due.is("FAILURES", x.serverOf(0, 4), 2);
    }

    private static void hedging() {
        FrontDoor x = new FrontDoor();
        x.server(1, 0, 20, 20, 0);
        x.server(1, 0, 20, 5, 0);
        x.server(9, 0, 20, 5, 0);
        x.rule(2);
        x.hedge(3);
        x.call(TO_0, 0, 60, true);
        x.call(TO_0, 0, 60, false);
        x.ticks(2);
        due.is("not yet", x.count(10), 0);
        x.ticks(1);
        due.is("a second ASKING", x.count(10), 1);
        due.is("by FEWEST, not by the RING's rule", x.callOf(0, 7), 1);
        due.is("its first", x.callOf(0, 6), 0);
        due.is("not SAFE: none", x.callOf(1, 5), 1);
        due.is("no AGAIN", x.count(9), 0);
        due.is("the second answers first", x.ticks(5), 1);
        due.is("that which answered", x.callOf(0, 6), 1);
        due.is("the first is called off", x.serverOf(0, 1), 1);
        due.is("no FAILURE of it", x.serverOf(0, 4), 0);
        due.is("no answer of it", x.serverOf(0, 3), 0);
        due.is("TRIED both", x.callOf(0, 8), 3);
        due.is("the other CALL", x.ticks(12), 1);
    }

    private static void hedgingOnlyThen() {
        FrontDoor x = new FrontDoor();
        x.server(1, 0, 20, 30, 0);
        x.hedge(3);
        x.call(0, 0, 60, true);
        x.ticks(3);
        due.is("no other may", x.callOf(0, 5), 1);
        x.server(1, 0, 20, 30, 0);
        x.ticks(5);
        due.is("only in that TICK", x.callOf(0, 5), 1);
        x.hedge(9);
        x.ticks(1);
        due.is("HEDGE as it is then", x.callOf(0, 5), 2);
        due.is("HEDGE 0: none", x.hedge(0), 9);
        x.call(0, 0, 60, true);
        x.ticks(20);
        due.is("none", x.callOf(1, 5), 1);

        x = two(0, 0);
        x.hedge(1);
        x.call(TO_0, 0, 60, true);
        x.ticks(1);
        due.is("HEDGE 1, the least", x.callOf(0, 5), 2);
        due.is("OPEN ASKINGS of all SERVERS", x.count(17), 2);
    }

    private static void bothAskings() {
        FrontDoor x = new FrontDoor();
        x.server(1, 0, 20, 4, 1);
        x.server(1, 0, 20, 2, 1);
        x.server(1, 0, 20, 9, 0);
        x.hedge(2);
        x.budget(100);
        x.limit(10);
        x.call(0, 0, 60, true);
        x.ticks(2);
        due.is("two", x.callOf(0, 5), 2);
        x.ticks(2);
        due.is("both over, both fail: AGAIN", x.count(9), 1);
        due.is("OPEN at the third", x.callOf(0, 6), 2);
        due.is("FAILURES", x.serverOf(0, 4) + x.serverOf(1, 4), 2);

        x = new FrontDoor();
        x.server(1, 0, 20, 4, 0);
        x.server(1, 0, 20, 2, 0);
        x.hedge(2);
        x.call(0, 0, 60, true);
        x.ticks(4);
        due.is("both over: the first one ahead", x.callOf(0, 6), 0);
        due.is("the other is called off", x.serverOf(1, 3) + x.serverOf(1, 4) + x.serverOf(1, 1), 0);

        x = new FrontDoor();
        x.server(1, 0, 20, 4, 1);
        x.server(1, 0, 20, 9, 0);
        x.hedge(2);
        x.call(0, 0, 60, true);
        x.ticks(4);
        due.is("the first failed, the second goes on", x.callOf(0, 0), 1);
        due.is("one ASKING", x.callOf(0, 5), 1);
        due.is("now the first", x.callOf(0, 6), 1);
        due.is("no second", x.callOf(0, 7), -9);
        due.is("no AGAIN", x.count(9), 0);

        x = new FrontDoor();
        x.server(1, 0, 20, 40, 0);
        x.server(1, 0, 20, 40, 0);
        x.hedge(2);
        x.limit(1);
        x.call(0, 0, 6, true);
        x.ticks(6);
        due.is("DUE: the first's FAILURE ahead", x.serverOf(0, 0), 1);
        due.is("so the second may not be OUT", x.serverOf(1, 0), 0);
        due.is("a FAILURE too", x.serverOf(1, 4), 1);
    }

    private static void queueInATick() {
        FrontDoor x = new FrontDoor();
        x.server(1, 0, 1, 2, 0);
        for (int n = 0; n < 4; n++) {
            x.call(0, n == 3 ? 1 : 0, 60, false);
        }
        x.ticks(2);
        due.is("the greater GRADE first", x.callOf(3, 0), 1);
        due.is("ROOM for no more", x.count(3), 2);
        due.is("one each time", x.ticks(6), 3);
        due.is("all", x.count(5), 4);

        x = two(0, 0);
        x.server(1, 0, 20, 2, 0);
        x.drain(0);
        x.drain(1);
        x.drain(2);
        x.call(TO_0, 0, 60, false);
        x.call(TO_0, 3, 60, false);
        x.back(0);
        x.ticks(1);
        due.is("TRYING gets one", x.callOf(1, 6), 0);
        due.is("and no more", x.callOf(0, 0), 0);
    }

    private static void orderOfSteps() {
        // An OUT one is TRYING in its TICK ahead of THE QUEUE, and gets a CALL in that very TICK.
        FrontDoor x = two(0, 0);
        x.limit(1);
        x.call(TO_0, 0, 1, false);
        x.ticks(1);
        due.is("OUT up to", x.serverOf(0, 6), 11);
        x.drain(1);
        x.call(TO_0, 0, 60, false);
        x.ticks(9);
        due.is("QUEUED", x.callOf(1, 0), 0);
        x.ticks(1);
        due.is("asked as it is TRYING", x.callOf(1, 6), 0);

        // A CALL whose DUE it is leaves ahead of THE QUEUE, and its ROOM is given at once.
        x = new FrontDoor();
        x.server(1, 0, 1, 50, 0);
        x.call(0, 0, 3, false);
        x.call(0, 0, 9, false);
        x.call(0, 0, 3, false);
        x.ticks(3);
        due.is("FAILED", x.callOf(0, 0), 3);
        due.is("TURNED away, not asked", x.callOf(2, 0), 4);
        due.is("asked", x.callOf(1, 0), 1);

        // HEDGING comes ahead of THE QUEUE for the last ROOM.
        x = new FrontDoor();
        x.server(1, 0, 1, 50, 0);
        x.hedge(2);
        x.call(0, 0, 90, true);
        x.call(0, 3, 90, true);
        x.ticks(1);
        x.server(1, 0, 1, 50, 0);
        x.ticks(1);
        due.is("the second ASKING has it", x.callOf(0, 7), 1);
        due.is("the QUEUED one waits", x.callOf(1, 0), 0);
    }
}
