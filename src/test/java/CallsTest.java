/** Promise 10 call; 11 off; 14 callOf; 17 queue; 19 count. */
public final class CallsTest {
    private static final Due due = new Due();

    public static void main(String[] args) {
        call();
        callOf();
        off();
        queue();
        count();
        due.end();
    }

    private static void shown(String what, FrontDoor x, int call, int... want) {
        for (int i = 0; i < want.length; i++) {
            due.is(what + ": callOf(" + call + ", " + i + ")", x.callOf(call, i), want[i]);
        }
    }

    private static void call() {
        FrontDoor x = new FrontDoor();
        due.is("least", x.call(0, 0, 1, false), 0);
        due.is("greatest", x.call(65535, 3, 2000, true), 1);
        for (int n = 2; n < 200; n++) {
            due.is("call " + n, x.call(n, n % 4, 5, true), n);
        }
        due.is("one above 200", x.call(0, 0, 1, true), -6);
        due.is("CALLS", x.count(2), 200);
        due.is("all QUEUED", x.count(3), 200);
        due.is("ended by the first TICK", x.ticks(1), 1);
        due.is("one above 200, still", x.call(0, 0, 1, true), -6);
        due.is("the rest", x.ticks(1999), 199);
        due.is("all TURNED away", x.count(7), 200);
    }

    private static void callOf() {
        FrontDoor x = new FrontDoor();
        x.server(1, 0, 1, 3, 0);
        x.ticks(7);
        x.call(9, 2, 50, true);
        x.call(10, 1, 1, false);
        shown("OPEN", x, 0, 1, 9, 2, 57, 1, 1, 0, -9, 1, 7, -9);
        shown("QUEUED", x, 1, 0, 10, 1, 8, 0, 0, -9, -9, 0, 7, -9);
        x.ticks(3);
        shown("ANSWERED", x, 0, 2, 9, 2, 57, 1, 0, 0, -9, 1, 7, 10);
        shown("TURNED away", x, 1, 4, 10, 1, 8, 0, 0, -9, -9, 0, 7, 8);
        x.set(0, 3, 1);
        x.call(1, 0, 50, false);
        x.ticks(3);
        shown("FAILED", x, 2, 3, 1, 0, 60, 0, 0, -9, -9, 1, 10, 13);

        x = new FrontDoor();
        x.server(1, 0, 9, 9, 0);
        x.server(1, 0, 9, 9, 0);
        x.hedge(2);
        x.call(0, 0, 50, true);
        x.ticks(2);
        shown("two ASKINGS", x, 0, 1, 0, 0, 50, 1, 2, 0, 1, 3, 0, -9);
        x.off(0);
        shown("called off", x, 0, 4, 0, 0, 50, 1, 0, -9, -9, 3, 0, 2);
        due.is("callOf(1, 0)", x.callOf(1, 0), -1);
        due.is("callOf(-1, 0)", x.callOf(-1, 0), -1);
        due.is("callOf(1, 11)", x.callOf(1, 11), -1);
        due.is("callOf(0, 11)", x.callOf(0, 11), -2);
        due.is("callOf(0, -1)", x.callOf(0, -1), -2);
    }

    private static void off() {
        FrontDoor x = new FrontDoor();
        x.server(1, 0, 1, 3, 0);
        x.call(0, 0, 9, false);
        x.call(0, 0, 9, false);
        x.call(0, 0, 9, false);
        due.is("off a QUEUED one", x.off(1), 1);
        due.is("out of THE QUEUE", x.queue(0), 2);
        due.is("off an OPEN one", x.off(0), 1);
        due.is("TURNED away", x.callOf(0, 0), 4);
        due.is("no FAILURE", x.serverOf(0, 4), 0);
        due.is("no answer", x.serverOf(0, 3), 0);
        due.is("its ASKING is OPEN no more", x.serverOf(0, 1), 0);
        due.is("but was one", x.serverOf(0, 2), 1);
        due.is("THE QUEUE waits for a TICK", x.callOf(2, 0), 0);
        due.is("off once more", x.off(0), -3);
        due.is("none ended in the TICK", x.ticks(1), 0);
        due.is("asked in it", x.callOf(2, 0), 1);
        due.is("answered", x.ticks(3), 1);
        due.is("off an ANSWERED one", x.off(2), -3);
        due.is("off(3)", x.off(3), -1);
        due.is("off(-1)", x.off(-1), -1);

        x = new FrontDoor();
        x.server(1, 0, 1, 3, 0);
        x.drain(0);
        x.back(0);
        x.call(0, 0, 9, false);
        x.off(0);
        due.is("a TRYING one stays so", x.serverOf(0, 0), 2);
    }

    private static void queue() {
        FrontDoor x = new FrontDoor();
        x.call(0, 0, 10, false);
        x.call(0, 2, 30, false);
        x.call(0, 2, 20, false);
        x.call(0, 3, 90, false);
        x.call(0, 0, 10, false);
        x.call(0, 2, 30, false);
        x.ticks(1);
        x.call(0, 0, 8, false);
        x.call(0, 2, 29, false);
        int[] want = {3, 2, 1, 5, 7, 6, 0, 4, -9};
        for (int i = 0; i < want.length; i++) {
            due.is("queue(" + i + ")", x.queue(i), want[i]);
        }
        due.is("queue(-1)", x.queue(-1), -9);
        due.is("queue(MIN)", x.queue(Integer.MIN_VALUE), -9);
        due.is("queue(MAX)", x.queue(Integer.MAX_VALUE), -9);
        for (int what = 11; what <= 16; what++) {
            due.is("queue refuses nothing", x.count(what), 0);
        }
        x.server(1, 0, 3, 50, 0);
        x.ticks(1);
        due.is("asked first", x.callOf(3, 0) + x.callOf(2, 0) + x.callOf(1, 0), 3);
        due.is("place 0 after them", x.queue(0), 5);
    }

    private static void count() {
        FrontDoor x = new FrontDoor();
        x.server(1, 0, 9, 2, 1);
        x.server(1, 0, 9, 30, 0);
        x.budget(100);
        x.hedge(3);
        x.limit(10);
        x.call(0, 0, 60, true);
        x.call(0, 0, 60, true);
        x.call(0, 0, 60, false);
        x.call(0, 0, 4, false);
        x.ticks(2);
        int[] at2 = {2, 2, 4, 0, 3, 0, 1, 0, 5, 1, 0, 0, 0, 0, 0, 0, 0, 3};
        for (int what = 0; what < at2.length; what++) {
            due.is("at 2: count(" + what + ")", x.count(what), at2[what]);
        }
        x.ticks(1);
        x.off(0);
        x.drain(0);
        x.drain(0);
        x.off(9);
        x.callOf(0, 77);
        x.hedge(-5);
        x.hedge(501);
        x.hedge(501);
        x.ticks(57);
        int[] at60 = {60, 2, 4, 0, 0, 1, 2, 1, 6, 1, 1, 1, 1, 1, 1, 0, 2, 0};
        for (int what = 0; what < at60.length; what++) {
            due.is("at 60: count(" + what + ")", x.count(what), at60[what]);
        }
        due.is("count(18)", x.count(18), -9);
        due.is("count(-1)", x.count(-1), -9);
        due.is("count(MAX)", x.count(Integer.MAX_VALUE), -9);
        due.is("count(MIN)", x.count(Integer.MIN_VALUE), -9);
    }
}
