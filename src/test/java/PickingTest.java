/** Promise 13 pick, and PICKING by each RULE. */
public final class PickingTest {
    private static final Due due = new Due();

    public static void main(String[] args) {
        turn();
        turnOnlyOfThoseThatMay();
        fewest();
        ring();
        near();
        who();
        keys();
        due.end();
    }

    private static void order(String what, FrontDoor x, int key, int... want) {
        for (int i = 0; i < want.length; i++) {
            due.is(what + ": pick " + i, x.pick(key), want[i]);
            due.is(what + ": picked again " + i, x.pick(key), want[i]);
            int n = x.call(key, 0, 2000, false);
            due.is(what + ": asked " + i, x.callOf(n, 6), want[i]);
        }
    }

    private static void turn() {
        FrontDoor x = new FrontDoor();
        x.server(5, 0, 20, 200, 0);
        x.server(1, 0, 20, 200, 0);
        x.server(1, 0, 20, 200, 0);
        order("TURN", x, 3, 0, 0, 1, 0, 2, 0, 0);
        for (int k = 0; k < 3; k++) {
            due.is("CREDIT after a round", x.serverOf(k, 9), 1000000000);
        }
        order("TURN again", x, 3, 0);
        due.is("CREDIT of the picked one", x.serverOf(0, 9), 1000000000 - 2);
        due.is("CREDIT of another", x.serverOf(1, 9), 1000000000 + 1);
        x.rule(1);
        order("FEWEST leaves CREDITS", x, 3, 1);
        due.is("CREDIT left", x.serverOf(1, 9), 1000000000 + 1);
    }

    private static void turnOnlyOfThoseThatMay() {
        FrontDoor x = new FrontDoor();
        x.server(1, 0, 1, 200, 0);
        x.server(3, 0, 20, 200, 0);
        order("TURN with a full one", x, 0, 1, 0, 1, 1, 1);
        due.is("CREDIT of the full one stays", x.serverOf(0, 9), 1000000000 + 2 - 4);
        due.is("CREDIT alone stays", x.serverOf(1, 9), 1000000000 - 1 + 3);
    }

    private static void fewest() {
        FrontDoor x = new FrontDoor();
        x.server(1, 0, 20, 200, 0);
        x.server(3, 0, 20, 200, 0);
        x.server(2, 0, 20, 200, 0);
        x.rule(1);
        order("FEWEST", x, 0, 0, 1, 2, 1, 2, 1, 0, 1);
    }

    private static void ring() {
        FrontDoor x = new FrontDoor();
        x.server(1, 0, 1, 200, 0);
        x.server(1, 0, 1, 200, 0);
        x.rule(2);
        // MARKS: 40503 15470 55973 30940 of SERVER 0, 5907 46410 21377 61880 of SERVER 1
        int[] key = {0, 5907, 5908, 15470, 15471, 21377, 21378, 40503, 40504, 46411, 55974, 61880, 61881, 65535};
        int[] want = {1, 1, 0, 0, 1, 1, 0, 0, 1, 0, 1, 1, 1, 1};
        for (int i = 0; i < key.length; i++) {
            due.is("RING pick(" + key[i] + ")", x.pick(key[i]), want[i]);
        }
        order("RING past one that may not", x, 40503, 0, 1, -9);
    }

    private static void near() {
        FrontDoor x = new FrontDoor();
        x.server(1, 1, 1, 200, 0);
        x.server(1, 2, 20, 200, 0);
        x.server(2, 2, 20, 200, 0);
        x.rule(3);
        due.is("NEAR, ZONE 1", x.pick(65533), 0);
        due.is("NEAR, no one in ZONE 0", x.pick(4), 0);
        order("NEAR, ZONE 2", x, 6, 1, 2, 2);
        order("NEAR, ZONE 1, then full: of all", x, 5, 0, 1, 2);
    }

    private static void who() {
        FrontDoor x = new FrontDoor();
        x.server(1, 0, 2, 200, 0);
        due.is("may", x.pick(0), 0);
        order("ROOM", x, 0, 0, 0, -9);
        x.set(0, 1, 3);
        due.is("more ROOM", x.pick(0), 0);
        x.set(0, 1, 1);
        due.is("less ROOM than OPEN ASKINGS", x.pick(0), -9);
        due.is("the QUEUED one waits for a TICK", x.callOf(2, 0), 0);
    }

    private static void keys() {
        FrontDoor x = new FrontDoor();
        due.is("pick(-1)", x.pick(-1), -4);
        due.is("pick(65536)", x.pick(65536), -6);
        due.is("none may", x.pick(65535), -9);
        due.is("no REFUSAL is that", x.count(14) * 10 + x.count(16), 11);
    }
}
