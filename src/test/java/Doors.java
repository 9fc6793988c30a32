/** Objects in states that several tests begin with. */
final class Doors {
    /** A KEY at which the RING begins with SERVER 0, and one at which it begins with SERVER 1. */
    static final int TO_0 = 40503;
    static final int TO_1 = 5907;

    private Doors() {
    }

    /**
     * SERVERS 0 WELL, 1 OUT, 2 DRAINING, 3 GONE, 4 TRYING; CALLS 0, 2, 3 and 4 OPEN, 1 FAILED, 6 and 5 QUEUED;
     * RULE 0, LIMIT 1, BUDGET 20, HEDGE 0, TICK 1.
     */
    static FrontDoor busy() {
        FrontDoor d = new FrontDoor();
        for (int k = 0; k < 5; k++) {
            d.server(1, k % 4, k == 0 ? 2 : 20, 50, 0);
        }
        d.limit(1);
        d.call(0, 0, 90, true);
        d.call(0, 0, 1, false);
        d.call(0, 0, 90, false);
        d.drain(2);
        d.drain(3);
        d.drain(4);
        d.back(4);
        d.ticks(1);
        for (int n = 0; n < 4; n++) {
            d.call(n, n, 90, true);
        }
        return d;
    }

    /** SERVERS 0 to n - 1, all alike. */
    static FrontDoor with(int n, int room, int pace, int breaks) {
        FrontDoor d = new FrontDoor();
        for (int k = 0; k < n; k++) {
            d.server(1, 0, room, pace, breaks);
        }
        return d;
    }
}
