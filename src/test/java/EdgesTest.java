/** The boundary cases that section 'Terms' names, a test for each sentence: just there, and one off on either side. */
public final class EdgesTest {
    private static final Due due = new Due();
    private static final String TERMS = "Terms";
    private static final int TO_0 = Doors.TO_0;
    private static final int TO_1 = Doors.TO_1;

    public static void main(String[] args) {
        weight();
        zone();
        room();
        pace();
        breaks();
        mute();
        tried();
        trying();
        turnTies();
        fewestTies();
        near();
        asked();
        limit();
        firstOfATryingOne();
        rowEndsByAnAnswer();
        penalty();
        halves();
        halvesOfWhom();
        halvesKeepHealth();
        answerOfATryingOne();
        backForgets();
        calledOff();
        againAheadOfItsDue();
        budget();
        budgetAtItsEnds();
        overIsExact();
        firstOneAhead();
        dueIsThisTick();
        dueOfAQueuedOne();
        dueAtItsEnds();
        dueOfTwoAskings();
        outTillItsTick();
        hedge();
        hedgeOnlyOne();
        hedgeAnother();
        queueOrder();
        queueWhoMay();
        drainingIsGone();
        due.end();
    }

    // ---- numbers of SERVERS in use

    private static void weight() {
        due.says(TERMS, "a WEIGHT (1 .. 100)");
        FrontDoor x = new FrontDoor();
        x.server(100, 0, 20, 1, 0);
        x.server(1, 0, 20, 1, 0);
        for (int n = 0; n < 101; n++) {
            x.call(0, 0, 9, false);
            x.ticks(1);
        }
        due.is("ASKINGS of WEIGHT 100", x.serverOf(0, 2), 100);
        due.is("ASKINGS of WEIGHT 1", x.serverOf(1, 2), 1);
        due.is("which is in the middle", x.callOf(50, 6), 1);
        due.is("CREDIT is 0 again", x.serverOf(0, 9), 1000000000);
    }

    private static void zone() {
        due.says(TERMS, "a ZONE (0 .. 3)");
        FrontDoor x = new FrontDoor();
        for (int z = 0; z < 4; z++) {
            x.server(1, z, 1, 1, 0);
        }
        x.rule(3);
        int[] keys = {0, 1, 2, 3, 4, 65532, 65533, 65534, 65535};
        int[] want = {0, 1, 2, 3, 0, 0, 1, 2, 3};
        for (int i = 0; i < keys.length; i++) {
            due.is("NEAR pick(" + keys[i] + ")", x.pick(keys[i]), want[i]);
        }
    }

    private static void room() {
        due.says(TERMS, "a ROOM (1 .. 20: OPEN ASKINGS at most)");
        for (int room : new int[] {1, 2, 19, 20}) {
            FrontDoor x = Doors.with(1, room, 200, 0);
            for (int n = 0; n <= room; n++) {
                due.is("ROOM " + room + ": pick " + n, x.pick(0), n < room ? 0 : -9);
                x.call(0, 0, 2000, false);
                due.is("ROOM " + room + ": CALL " + n, x.callOf(n, 0), n < room ? 1 : 0);
            }
            due.is("ROOM " + room + ": OPEN ASKINGS", x.serverOf(0, 1), room);
            due.is("ROOM " + room + ": QUEUED", x.count(3), 1);
        }
        due.says(TERMS, "has fewer OPEN ASKINGS than ROOM");
        FrontDoor x = Doors.with(1, 3, 200, 0);
        for (int n = 0; n < 3; n++) {
            x.call(0, 0, 2000, false);
        }
        x.set(0, 1, 2);
        x.off(0);
        due.is("as many as ROOM became: may not", x.pick(0), -9);
        x.off(1);
        due.is("one fewer: may", x.pick(0), 0);
    }

    private static void pace() {
        due.says(TERMS, "a PACE (1 .. 200: TICKS till it answers)");
        for (int pace : new int[] {1, 2, 199, 200}) {
            FrontDoor x = Doors.with(1, 1, pace, 0);
            x.call(0, 0, 2000, false);
            if (pace > 1) {
                due.is("PACE " + pace + ": one TICK ahead", x.ticks(pace - 1), 0);
                due.is("PACE " + pace + ": OPEN", x.callOf(0, 0), 1);
            }
            due.is("PACE " + pace + ": its TICK", x.ticks(1), 1);
            due.is("PACE " + pace + ": ANSWERED", x.callOf(0, 0), 2);
            due.is("PACE " + pace + ": ended", x.callOf(0, 10), pace);
        }
    }

    private static void breaks() {
        due.says(TERMS, "whose number at this SERVER, from 1 on, is a multiple of it fails; 0 none does)");
        for (int breaks : new int[] {0, 1, 2, 19, 20}) {
            FrontDoor x = Doors.with(1, 1, 1, breaks);
            for (int n = 1; n <= 40; n++) {
                int c = x.call(0, 0, 9, false);
                x.ticks(1);
                due.is("BREAKS " + breaks + ": ASKING " + n, x.callOf(c, 0), breaks > 0 && n % breaks == 0 ? 3 : 2);
            }
            due.is("BREAKS " + breaks + ": FAILURES in all", x.serverOf(0, 4), breaks == 0 ? 0 : 40 / breaks);
        }
    }

    private static void mute() {
        due.says(TERMS, "whether it is MUTE (an ASKING that begins as it is so is never answered)");
        FrontDoor x = Doors.with(1, 2, 1, 0);
        x.set(0, 4, 1);
        x.call(0, 0, 2000, true);
        x.set(0, 4, 0);
        x.call(0, 0, 2000, true);
        x.set(0, 4, 1);
        due.is("the one that began as it was not", x.ticks(1), 1);
        due.is("is ANSWERED", x.callOf(1, 0), 2);
        x.set(0, 4, 0);
        due.is("never", x.ticks(1998), 0);
        due.is("still OPEN", x.callOf(0, 5), 1);
        due.is("by its DUE", x.ticks(1), 1);
        due.is("FAILED", x.callOf(0, 0), 3);
    }

    // ---- MAY

    private static void tried() {
        due.says(TERMS, "TRIED are SERVERS at which a CALL had, or has, an ASKING.");
        FrontDoor x = Doors.with(8, 20, 1, 1);
        x.limit(10);
        x.budget(100);
        x.call(0, 3, 30, true);
        for (int n = 0; n < 7; n++) {
            x.call(0, 0, 30, false);
        }
        for (int n = 1; n <= 7; n++) {
            x.ticks(1);
            due.is("OPEN after " + n, x.callOf(0, 0), 1);
            due.is("TRIED after " + n, Integer.bitCount(x.callOf(0, 8)), n + 1);
        }
        x.ticks(1);
        due.is("TRIED all 8", x.callOf(0, 8), 255);
        due.is("QUEUED, as nobody may", x.callOf(0, 0), 0);
        due.is("each has room", x.count(17), 0);
        due.is("a new CALL may", x.pick(0) >= 0 ? 1 : 0, 1);
        due.is("till its DUE", x.ticks(21), 0);
        due.is("which is then", x.ticks(1), 1);
        due.is("TURNED away", x.callOf(0, 0), 4);
    }

    private static void trying() {
        due.says(TERMS, "and is WELL, or TRYING without any");
        FrontDoor x = Doors.with(1, 20, 5, 0);
        x.drain(0);
        due.is("GONE", x.pick(0), -9);
        x.back(0);
        due.is("TRYING without any", x.pick(0), 0);
        x.call(0, 0, 50, false);
        due.is("TRYING with one", x.pick(0), -9);
        x.call(0, 0, 50, false);
        due.is("so it is QUEUED", x.callOf(1, 0), 0);
        x.off(0);
        due.is("TRYING without any once more", x.pick(0), 0);
        x.ticks(1);
        due.is("THE QUEUE gives one", x.callOf(1, 0), 1);
        x.drain(0);
        due.is("DRAINING", x.pick(0), -9);
    }

    // ---- PICKING

    private static void turnTies() {
        due.says(TERMS, "the one with the greatest is picked, of several the least number");
        FrontDoor x = Doors.with(8, 20, 200, 0);
        for (int n = 0; n < 16; n++) {
            due.is("equal CREDITS: CALL " + n, x.callOf(x.call(0, 0, 2000, false), 6), n % 8);
        }
        x = new FrontDoor();
        x.server(1, 0, 20, 200, 0);
        x.server(2, 0, 20, 200, 0);
        x.server(2, 0, 20, 200, 0);
        due.is("the least of the two greatest", x.pick(0), 1);
        due.says(TERMS, "CREDITS (one for each SERVER, 0 at first)");
        x = Doors.with(1, 1, 200, 0);
        due.is("at first", x.serverOf(0, 9), 1000000000);
        x.call(0, 0, 2000, false);
        due.is("of one alone", x.serverOf(0, 9), 1000000000);
        x.call(0, 0, 2000, false);
        due.is("none is picked: as it was", x.serverOf(0, 9), 1000000000);
    }

    private static void fewestTies() {
        due.says(TERMS, "the one with the fewest OPEN ASKINGS by WEIGHT (as fractions), of several the least number.");
        FrontDoor x = new FrontDoor();
        x.server(3, 0, 20, 200, 0);
        x.server(7, 0, 20, 200, 0);
        x.rule(1);
        // 0/3 0/7, 1/3 0/7, 1/3 1/7, 1/3 2/7 (both 0 if cut), 1/3 3/7, 2/3 3/7, 2/3 4/7, 2/3 5/7, 3/3 5/7, 3/3 6/7, 3/3 7/7
        int[] want = {0, 1, 1, 1, 0, 1, 1, 0, 1, 1, 0};
        for (int n = 0; n < want.length; n++) {
            due.is("3 and 7: CALL " + n, x.callOf(x.call(0, 0, 2000, false), 6), want[n]);
        }
        x = new FrontDoor();
        x.server(2, 0, 20, 200, 0);
        x.server(4, 0, 20, 200, 0);
        x.rule(1);
        // 0/2 0/4, 1/2 0/4, 1/2 1/4, then 1/2 and 2/4 are the same
        int[] even = {0, 1, 1, 0};
        for (int n = 0; n < even.length; n++) {
            due.is("2 and 4: CALL " + n, x.callOf(x.call(0, 0, 2000, false), 6), even[n]);
        }
    }

    private static void near() {
        due.says(TERMS, "as FEWEST of those whose ZONE is the KEY modulo 4; without any of all.");
        FrontDoor x = new FrontDoor();
        x.server(1, 0, 20, 200, 0);
        x.server(1, 3, 1, 200, 0);
        x.rule(3);
        due.is("ZONE 3", x.pick(65535), 1);
        due.is("no SERVER in ZONE 2: of all", x.pick(2), 0);
        x.call(65535, 0, 2000, false);
        due.is("none in ZONE 3 may: of all", x.pick(65535), 0);
        x.set(1, 1, 2);
        due.is("it may again, though it has more", x.pick(65535), 1);
        due.is("no SERVER in ZONE 2: the fewest", x.pick(2), 0);
        x.call(0, 0, 2000, false);
        x.call(0, 0, 2000, false);
        due.is("ZONE 0 is one too, though it has more", x.pick(65532), 0);
    }

    private static void asked() {
        due.says(TERMS, "A CALL comes: if one may, it is picked and asked at once; else the CALL is QUEUED.");
        FrontDoor x = Doors.with(1, 1, 5, 0);
        x.call(0, 0, 50, false);
        x.call(0, 0, 50, false);
        due.is("at once", x.callOf(0, 5), 1);
        due.is("else QUEUED", x.callOf(1, 5) + x.callOf(1, 0), 0);
        x.off(0);
        x.call(0, 0, 50, false);
        due.is("one may, though others are QUEUED", x.callOf(2, 0), 1);
        due.is("who wait on", x.queue(0), 1);
    }

    // ---- FAILURES

    private static void fail(FrontDoor x, int key, int times) {
        for (int n = 0; n < times; n++) {
            x.call(key, 0, 1, false);
            x.ticks(1);
        }
    }

    private static FrontDoor slowTwo() {
        FrontDoor x = Doors.with(2, 20, 9, 0);
        x.rule(2);
        return x;
    }

    private static void limit() {
        due.says(TERMS, "at LIMIT (1 .. 10; 3 at first) a WELL one");
        for (int limit : new int[] {1, 2, 3, 9, 10}) {
            FrontDoor x = slowTwo();
            if (limit != 3) {
                x.limit(limit);
            }
            fail(x, TO_0, limit - 1);
            due.is("LIMIT " + limit + ": one below is WELL", x.serverOf(0, 0), 0);
            due.is("LIMIT " + limit + ": one below in a row", x.serverOf(0, 5), limit - 1);
            fail(x, TO_0, 1);
            due.is("LIMIT " + limit + ": OUT", x.serverOf(0, 0), 1);
            due.is("LIMIT " + limit + ": none in a row", x.serverOf(0, 5), 0);
            due.is("LIMIT " + limit + ": in all", x.serverOf(0, 4), limit);
        }
    }

    private static void firstOfATryingOne() {
        due.says(TERMS, "at the first a TRYING one, is OUT");
        FrontDoor x = slowTwo();
        x.limit(10);
        x.drain(0);
        x.back(0);
        fail(x, TO_0, 1);
        due.is("OUT at the first, LIMIT 10", x.serverOf(0, 0), 1);
        due.is("up to", x.serverOf(0, 6), 11);
    }

    private static void rowEndsByAnAnswer() {
        due.says(TERMS, "FAILURES in a row (answers that are none make it 0 again)");
        FrontDoor x = Doors.with(2, 20, 2, 0);
        x.rule(2);
        fail(x, TO_0, 2);
        due.is("two in a row", x.serverOf(0, 5), 2);
        x.call(TO_0, 0, 9, false);
        x.ticks(2);
        due.is("an answer", x.serverOf(0, 5), 0);
        due.is("in all they stay", x.serverOf(0, 4), 2);
        fail(x, TO_0, 2);
        due.is("two once more: WELL", x.serverOf(0, 0), 0);
        fail(x, TO_0, 1);
        due.is("three: OUT", x.serverOf(0, 0), 1);
    }

    private static void penalty() {
        due.says(TERMS, "10, twice as many each time again without an answer in between, 320 at most");
        FrontDoor x = slowTwo();
        x.limit(1);
        int[] penalty = {10, 20, 40, 80, 160, 320, 320, 320};
        for (int i = 0; i < penalty.length; i++) {
            due.is("PENALTY next, " + i, x.serverOf(0, 7), penalty[i]);
            fail(x, TO_0, 1);
            due.is("OUT up to, " + i, x.serverOf(0, 6), x.count(0) + penalty[i]);
            x.ticks(penalty[i] - 1);
            due.is("OUT in the TICK ahead, " + i, x.serverOf(0, 0), 1);
            x.ticks(1);
            due.is("TRYING, " + i, x.serverOf(0, 0), 2);
        }
        x.set(0, 2, 1);
        x.call(TO_0, 0, 9, false);
        x.ticks(1);
        due.is("an answer: 10 again", x.serverOf(0, 7), 10);
        fail(x, TO_0, 1);
        due.is("answered in its DUE, no FAILURE", x.serverOf(0, 0), 0);
        x.set(0, 2, 2);
        fail(x, TO_0, 1);
        due.is("10 TICKS", x.serverOf(0, 6) - x.count(0), 10);
    }

    private static void halves() {
        due.says(TERMS, "more than half were OUT (halves cut)");
        for (int n = 1; n <= 8; n++) {
            FrontDoor x = Doors.with(n, 20, 1, 1);
            x.limit(1);
            for (int c = 0; c < n; c++) {
                x.call(0, 0, 9, false);
            }
            due.is("each of " + n + " fails", x.ticks(1), n);
            for (int k = 0; k < n; k++) {
                due.is("of " + n + ": HEALTH of " + k, x.serverOf(k, 0), k < n / 2 ? 1 : 0);
                due.is("of " + n + ": times OUT of " + k, x.serverOf(k, 8), k < n / 2 ? 1 : 0);
                due.is("of " + n + ": FAILURES of " + k, x.serverOf(k, 4), 1);
                due.is("of " + n + ": in a row of " + k, x.serverOf(k, 5), 0);
                due.is("of " + n + ": PENALTY next of " + k, x.serverOf(k, 7), k < n / 2 ? 20 : 10);
            }
        }
    }

    private static void halvesOfWhom() {
        due.says(TERMS, "of all SERVERS that are WELL, TRYING or OUT");
        for (int kind = 0; kind <= 4; kind++) {
            // SERVERS 0 and 1 fail; 2 is WELL; 3 is of each kind in turn: WELL, OUT, TRYING, DRAINING, GONE.
            FrontDoor x = Doors.with(4, 20, 9, 0);
            x.limit(1);
            for (int n = 0; n < 4; n++) {
                x.call(0, 0, n == 3 && kind == 1 ? 1 : n < 2 ? 2 : 90, false);
            }
            if (kind >= 2) {
                if (kind != 3) {
                    x.off(3);
                }
                x.drain(3);
            }
            if (kind == 2) {
                x.back(3);
            }
            x.ticks(1);
            due.is("HEALTH of 3", x.serverOf(3, 0), kind);
            x.ticks(1);
            due.is("0 is OUT, 3 is " + kind, x.serverOf(0, 0), 1);
            due.is("1 is OUT if 2 of 4 are, 3 is " + kind, x.serverOf(1, 0), kind == 0 || kind == 2 ? 1 : 0);
        }
    }

    private static void halvesKeepHealth() {
        due.says(TERMS, "then a WELL one stays so with FAILURES 0, a TRYING one becomes WELL");
        FrontDoor x = Doors.with(1, 20, 9, 0);
        fail(x, 0, 2);
        due.is("two in a row", x.serverOf(0, 5), 2);
        fail(x, 0, 1);
        due.is("a WELL one stays so", x.serverOf(0, 0), 0);
        due.is("with FAILURES 0", x.serverOf(0, 5), 0);
        due.is("in all they stay", x.serverOf(0, 4), 3);
        x.drain(0);
        x.back(0);
        due.is("TRYING", x.serverOf(0, 0), 2);
        fail(x, 0, 1);
        due.is("a TRYING one becomes WELL", x.serverOf(0, 0), 0);
        due.is("never OUT", x.serverOf(0, 8), 0);
        due.is("PENALTY next", x.serverOf(0, 7), 10);
    }

    private static void answerOfATryingOne() {
        due.says(TERMS, "An answer: a TRYING SERVER is WELL; PENALTY is 10 again.");
        FrontDoor x = slowTwo();
        x.limit(1);
        fail(x, TO_0, 1);
        x.ticks(10);
        due.is("TRYING", x.serverOf(0, 0), 2);
        due.is("PENALTY next", x.serverOf(0, 7), 20);
        x.call(TO_0, 0, 9, false);
        x.ticks(8);
        due.is("TRYING till it answers", x.serverOf(0, 0), 2);
        x.ticks(1);
        due.is("in the TICK of the DUE, the last: WELL", x.serverOf(0, 0), 0);
        due.is("PENALTY 10", x.serverOf(0, 7), 10);
    }

    private static void calledOff() {
        due.says("Promise 11", "A CALL that is QUEUED or OPEN is called off: it is TURNED away (its ASKINGS are neither answers nor FAILURES): 1.");
        FrontDoor x = Doors.with(2, 1, 9, 0);
        x.rule(2);
        fail(x, TO_0, 2);
        fail(x, TO_1, 2);
        x.hedge(1);
        x.call(TO_0, 0, 90, true);
        x.call(TO_1, 0, 1, false);
        x.call(TO_0, 0, 90, false);
        x.ticks(1);
        due.is("three in a row of 1: OUT", x.serverOf(1, 0), 1);
        x.drain(1);
        x.back(1);
        due.is("one ASKING", x.callOf(4, 5), 1);
        x.hedge(2);
        x.ticks(1);
        due.is("two ASKINGS", x.callOf(4, 5), 2);
        due.is("one is QUEUED", x.queue(0), 6);
        int[] before = {x.serverOf(0, 3), x.serverOf(0, 4), x.serverOf(0, 5), x.serverOf(1, 3), x.serverOf(1, 4), x.serverOf(1, 5)};
        due.is("off an OPEN one with two", x.off(4), 1);
        int[] after = {x.serverOf(0, 3), x.serverOf(0, 4), x.serverOf(0, 5), x.serverOf(1, 3), x.serverOf(1, 4), x.serverOf(1, 5)};
        due.holds("neither answers nor FAILURES", java.util.Arrays.equals(before, after));
        due.is("a row of two stays", x.serverOf(0, 5), 2);
        due.is("the TRYING one stays so", x.serverOf(1, 0), 2);
        due.is("none is OPEN", x.count(17), 0);
        due.is("off a QUEUED one", x.off(6), 1);
        due.is("nobody waits", x.queue(0), -9);
        due.is("TURNED away both", x.callOf(4, 0) * 10 + x.callOf(6, 0), 44);
        due.is("TRIED they stay", x.callOf(4, 8) * 10 + x.callOf(6, 8), 30);
        due.is("nothing comes later", x.ticks(90), 0);
    }

    // ---- AGAIN

    private static void backForgets() {
        due.says("Promise 5", "is TRYING (FAILURES 0, PENALTY 10): 1.");
        FrontDoor x = slowTwo();
        fail(x, TO_0, 2);
        x.drain(0);
        due.is("two in a row", x.serverOf(0, 5), 2);
        due.is("back of a GONE one", x.back(0), 1);
        due.is("FAILURES 0", x.serverOf(0, 5), 0);
        due.is("in all they stay", x.serverOf(0, 4), 2);
        int[] penalty = {10, 20, 40, 80, 160, 320};
        for (int i = 0; i < penalty.length; i++) {
            fail(x, TO_0, 1);
            x.ticks(penalty[i]);
        }
        due.is("PENALTY next", x.serverOf(0, 7), 320);
        x.call(TO_0, 0, 90, false);
        due.is("drain", x.drain(0), 1);
        due.is("PENALTY next of a DRAINING one", x.serverOf(0, 7), 320);
        due.is("back of a DRAINING one", x.back(0), 1);
        due.is("PENALTY 10", x.serverOf(0, 7), 10);
        due.is("it keeps its ASKING", x.serverOf(0, 1), 1);
        due.is("how many times it was OUT", x.serverOf(0, 8), 6);
    }

    private static void againAheadOfItsDue() {
        due.says(TERMS, "a SAFE CALL whose last ASKING failed ahead of its DUE is QUEUED again");
        for (int ticks = 4; ticks <= 6; ticks++) {
            FrontDoor x = Doors.with(2, 20, 5, 1);
            x.budget(100);
            x.call(0, 0, ticks, true);
            x.ticks(5);
            due.is("PACE 5, DUE " + ticks + ": AGAINS", x.count(9), ticks == 6 ? 1 : 0);
            due.is("PACE 5, DUE " + ticks, x.callOf(0, 0), ticks == 6 ? 1 : 3);
            due.is("PACE 5, DUE " + ticks + ": a FAILURE", x.serverOf(0, 4), 1);
        }
        FrontDoor x = Doors.with(2, 20, 5, 1);
        x.budget(100);
        x.call(0, 0, 6, false);
        x.ticks(5);
        due.is("not SAFE", x.callOf(0, 0) * 10 + x.count(9), 30);
    }

    private static void budget() {
        due.says(TERMS, "if 100 times (AGAINS so far and this one) is not above BUDGET (0 .. 100; 20 at first) times CALLS that came so far; else it has FAILED.");
        for (int calls = 4; calls <= 11; calls++) {
            FrontDoor x = Doors.with(2, 20, 5, 0);
            x.rule(2);
            x.limit(10);
            x.set(0, 3, 1);
            for (int n = 0; n < calls; n++) {
                x.call(TO_0, 0, 90, true);
            }
            x.ticks(5);
            due.is("20 at first, " + calls + " CALLS: AGAINS", x.count(9), calls / 5);
            due.is("20 at first, " + calls + " CALLS: FAILED", x.count(6), calls - calls / 5);
        }
        FrontDoor x = Doors.with(1, 1, 5, 1);
        for (int n = 0; n < 5; n++) {
            x.call(0, 0, n == 4 ? 1 : 90, true);
        }
        x.off(3);
        x.ticks(5);
        due.is("CALLS that came, QUEUED and ended too", x.count(9), 1);
    }

    private static void budgetAtItsEnds() {
        due.says(TERMS, "BUDGET (0 .. 100; 20 at first)");
        for (int budget : new int[] {0, 1, 99, 100}) {
            FrontDoor x = Doors.with(2, 20, 1, 0);
            x.limit(10);
            x.budget(budget);
            for (int n = 0; n < 99; n++) {
                x.call(0, 0, 1, false);
                x.ticks(1);
            }
            x.set(0, 3, 1);
            x.set(1, 3, 1);
            x.call(0, 0, 9, true);
            x.ticks(1);
            due.is("BUDGET " + budget + ", 100 CALLS: AGAINS", x.count(9), budget == 0 ? 0 : 1);
            x.ticks(1);
            due.is("BUDGET " + budget + ", both fail", x.count(9), budget == 0 ? 0 : budget == 1 ? 1 : 2);
            due.is("BUDGET " + budget + ", what it is", x.callOf(99, 0), budget >= 2 ? 0 : 3);
        }
        FrontDoor x = Doors.with(3, 20, 1, 1);
        x.budget(100);
        x.call(0, 0, 9, true);
        x.ticks(1);
        due.is("100: one AGAIN for one CALL", x.callOf(0, 0) * 10 + x.count(9), 11);
        x.ticks(1);
        due.is("and no other", x.callOf(0, 0) * 10 + x.count(9), 31);
    }

    // ---- a TICK passes

    private static void overIsExact() {
        due.says(TERMS, "(PACE TICKS behind its begin, as PACE was then; the first one ahead)");
        FrontDoor x = Doors.with(1, 20, 200, 0);
        x.call(0, 0, 2000, false);
        x.set(0, 2, 1);
        x.ticks(1);
        due.is("as PACE was then", x.callOf(0, 0), 1);
        x.call(0, 0, 2000, false);
        x.set(0, 2, 200);
        due.is("PACE 1, as it was then", x.ticks(1), 1);
        due.is("it is that one", x.callOf(1, 0), 2);
        due.is("one TICK ahead of 200", x.ticks(197), 0);
        due.is("200 behind its begin", x.ticks(1), 1);
    }

    private static void firstOneAhead() {
        due.says(TERMS, "The first answer makes the CALL ANSWERED, its other ASKING is called off (neither a FAILURE nor an answer).");
        for (int pace = 2; pace <= 4; pace++) {
            FrontDoor x = Doors.with(1, 20, 5, 0);
            x.server(1, 0, 20, pace, 0);
            x.hedge(2);
            x.call(0, 0, 90, true);
            x.ticks(2);
            due.is("two ASKINGS", x.callOf(0, 5), 2);
            x.ticks(3);
            int winner = pace == 2 ? 1 : 0;
            due.is("PACE 5, and 2 TICKS later " + pace, x.callOf(0, 6), winner);
            due.is("an answer of one", x.serverOf(winner, 3), 1);
            due.is("none of the other", x.serverOf(1 - winner, 3) + x.serverOf(1 - winner, 4), 0);
            due.is("none is OPEN", x.count(17), 0);
            due.is("no ASKINGS now, no second", x.callOf(0, 5) * 10 + x.callOf(0, 7), -9);
        }
        FrontDoor x = Doors.with(1, 20, 5, 1);
        x.server(1, 0, 20, 3, 0);
        x.hedge(2);
        x.call(0, 0, 90, true);
        due.is("both over: the first fails, the second answers", x.ticks(5), 1);
        due.is("ANSWERED by the second", x.callOf(0, 0) * 10 + x.callOf(0, 6), 21);
        due.is("a FAILURE, and an answer", x.serverOf(0, 4) * 10 + x.serverOf(1, 3), 11);
    }

    private static void dueIsThisTick() {
        due.says(TERMS, "CALLS, by numbers, whose DUE is this TICK, and that are OPEN");
        int[] state = {3, 2, 2};
        for (int ticks = 4; ticks <= 6; ticks++) {
            FrontDoor x = Doors.with(1, 1, 5, 0);
            x.call(0, 0, ticks, false);
            x.ticks(ticks - 1);
            due.is("DUE " + ticks + ": the TICK ahead", x.count(6), 0);
            x.ticks(1);
            due.is("PACE 5, DUE " + ticks, x.callOf(0, 0), state[ticks - 4]);
            due.is("DUE " + ticks + ": FAILURES", x.serverOf(0, 4), ticks == 4 ? 1 : 0);
        }
    }

    private static void dueOfAQueuedOne() {
        due.says(TERMS, "QUEUED: TURNED away.");
        for (int ticks = 4; ticks <= 6; ticks++) {
            // The one ahead of it is over in TICK 5, in which THE QUEUE comes behind the DUES.
            FrontDoor x = Doors.with(1, 1, 5, 0);
            x.call(0, 0, 90, false);
            x.call(0, 0, ticks, false);
            x.ticks(ticks - 1);
            due.is("DUE " + ticks + ": the TICK ahead", x.callOf(1, 0), ticks == 6 ? 1 : 0);
            x.ticks(1);
            due.is("DUE " + ticks, x.callOf(1, 0), ticks == 6 ? 3 : 4);
            due.is("DUE " + ticks + ": FAILURES", x.serverOf(0, 4), ticks == 6 ? 1 : 0);
        }
    }

    private static void dueAtItsEnds() {
        due.says("Promise 10", "with DUE so many TICKS (1 .. 2000) from now");
        FrontDoor x = new FrontDoor();
        x.call(0, 0, 1, false);
        x.call(0, 0, 2000, false);
        due.is("1", x.ticks(1), 1);
        due.is("1999", x.ticks(1998), 0);
        due.is("2000", x.ticks(1), 1);
        due.is("ended", x.callOf(0, 10) * 10000 + x.callOf(1, 10), 12000);
    }

    private static void dueOfTwoAskings() {
        due.says(TERMS, "each ASKING of theirs is a FAILURE of its SERVER, the first one ahead, the CALL has FAILED");
        FrontDoor x = Doors.with(2, 20, 50, 0);
        x.rule(2);
        x.limit(1);
        x.hedge(1);
        x.call(TO_1, 0, 2, true);
        x.ticks(1);
        due.is("first and second", x.callOf(0, 6) * 10 + x.callOf(0, 7), 10);
        due.is("one CALL ends", x.ticks(1), 1);
        due.is("FAILED", x.callOf(0, 0), 3);
        due.is("a FAILURE of each", x.serverOf(0, 4) * 10 + x.serverOf(1, 4), 11);
        due.is("the first one ahead, so it is OUT", x.serverOf(1, 0), 1);
        due.is("and the second may not", x.serverOf(0, 0), 0);
    }

    private static void outTillItsTick() {
        due.says(TERMS, "OUT ones whose TICK this is are TRYING");
        FrontDoor x = slowTwo();
        x.limit(1);
        fail(x, TO_0, 1);
        due.is("OUT up to", x.serverOf(0, 6), 11);
        x.ticks(9);
        due.is("TICK 10", x.serverOf(0, 0), 1);
        due.is("up to 11 still", x.serverOf(0, 6), 11);
        x.ticks(1);
        due.is("TICK 11", x.serverOf(0, 0), 2);
        due.is("no TICK then", x.serverOf(0, 6), -9);
        x.ticks(300);
        due.is("TRYING as long as nobody asks", x.serverOf(0, 0), 2);
    }

    private static void hedge() {
        due.says(TERMS, "which began HEDGE TICKS ago (HEDGE 0: none; 1 .. 500)");
        for (int hedge : new int[] {1, 2, 499, 500}) {
            FrontDoor x = Doors.with(2, 20, 1, 0);
            x.set(0, 4, 1);
            x.set(1, 4, 1);
            x.hedge(hedge);
            x.call(0, 0, 2000, true);
            if (hedge > 1) {
                x.ticks(hedge - 1);
            }
            due.is("HEDGE " + hedge + ": one TICK ahead", x.count(10), 0);
            x.ticks(1);
            due.is("HEDGE " + hedge + ": then", x.count(10), 1);
            due.is("HEDGE " + hedge + ": two", x.callOf(0, 5), 2);
            x.ticks(hedge);
            due.is("HEDGE " + hedge + ": no third", x.count(10), 1);
        }
        FrontDoor x = Doors.with(2, 20, 1, 0);
        x.set(0, 4, 1);
        x.call(0, 0, 2000, true);
        x.ticks(1999);
        due.is("HEDGE 0: none", x.count(10), 0);
        x = Doors.with(2, 20, 200, 0);
        x.call(0, 0, 2000, true);
        x.ticks(3);
        x.hedge(2);
        x.ticks(50);
        due.is("3 TICKS ago is not 2 TICKS ago", x.count(10), 0);
        x.hedge(54);
        x.ticks(1);
        due.is("54 TICKS ago", x.count(10), 1);
    }

    private static void hedgeOnlyOne() {
        due.says(TERMS, "OPEN CALLS, by numbers, that are SAFE, have one ASKING");
        FrontDoor x = Doors.with(2, 20, 200, 0);
        x.rule(2);
        x.set(1, 1, 1);
        x.hedge(3);
        x.call(TO_0, 0, 2000, false);
        x.call(TO_0, 0, 2000, true);
        x.call(TO_0, 0, 2000, true);
        x.ticks(3);
        due.is("not SAFE", x.callOf(0, 5), 1);
        due.is("by numbers: the first has the ROOM", x.callOf(1, 5), 2);
        due.is("the next has none", x.callOf(2, 5), 1);
        due.is("second ASKINGS", x.count(10), 1);
    }

    private static void hedgeAnother() {
        due.says(TERMS, "if another SERVER may, it is PICKED as by FEWEST: a second ASKING.");
        FrontDoor x = Doors.with(1, 20, 200, 0);
        x.hedge(1);
        x.call(0, 0, 2000, true);
        x.ticks(1);
        due.is("there is no other", x.callOf(0, 5), 1);
        x = Doors.with(3, 20, 200, 0);
        x.rule(2);
        x.drain(2);
        x.back(2);
        x.call(TO_1, 0, 2000, false);
        x.call(TO_1, 0, 2000, false);
        x.hedge(1);
        x.call(TO_0, 0, 2000, true);
        x.ticks(1);
        due.is("a TRYING one without any is the one with the fewest", x.callOf(2, 7), 2);
        due.is("CREDITS as they were", x.serverOf(2, 9), 1000000000);
    }

    // ---- THE QUEUE and the end of a TICK

    private static void queueOrder() {
        due.says(TERMS, "THE QUEUE: by GRADE, the greater first, then DUE, the earlier first, then number");
        FrontDoor x = new FrontDoor();
        x.call(0, 0, 1999, false);
        x.call(0, 0, 2000, false);
        x.call(0, 3, 2000, false);
        x.call(0, 3, 1999, false);
        x.ticks(1);
        x.call(0, 0, 1998, false);
        x.call(0, 3, 1999, false);
        x.call(0, 2, 1, false);
        x.call(0, 1, 1, false);
        int[] want = {3, 2, 5, 6, 7, 0, 4, 1, -9};
        for (int i = 0; i < want.length; i++) {
            due.is("queue(" + i + ")", x.queue(i), want[i]);
        }
    }

    private static void queueWhoMay() {
        due.says(TERMS, "each CALL for which one may is asked.");
        FrontDoor x = Doors.with(1, 1, 1, 1);
        x.budget(100);
        x.call(0, 3, 90, true);
        x.call(0, 0, 90, false);
        x.call(0, 0, 90, false);
        x.set(0, 3, 0);
        x.ticks(1);
        due.is("the first in THE QUEUE has TRIED the one there is", x.queue(0), 0);
        due.is("so the next is asked", x.callOf(1, 0), 1);
        due.is("and none beyond ROOM", x.callOf(2, 0), 0);
    }

    private static void drainingIsGone() {
        due.says(TERMS, "DRAINING ones without OPEN ASKINGS are GONE.");
        FrontDoor x = Doors.with(1, 20, 5, 0);
        x.call(0, 0, 90, false);
        x.ticks(1);
        x.call(0, 0, 90, false);
        due.is("drain with two", x.drain(0), 2);
        x.ticks(4);
        due.is("one is left", x.serverOf(0, 0) * 10 + x.serverOf(0, 1), 31);
        x.ticks(1);
        due.is("none is left", x.serverOf(0, 0) * 10 + x.serverOf(0, 1), 40);
        due.is("and none was lost", x.count(5), 2);
    }
}
