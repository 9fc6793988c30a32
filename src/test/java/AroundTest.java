/** A wrap-around: the ring of 65536 places, and sums and products with the greatest numbers. */
public final class AroundTest {
    private static final Due due = new Due();
    private static final int HIGH = Integer.MAX_VALUE;

    public static void main(String[] args) {
        marks();
        marksAtOnePlace();
        behindTheLastMark();
        atAMark();
        everyKey();
        pastThoseThatMayNot();
        oneServer();
        greatestCredits();
        leastCredit();
        greatestFractions();
        greatestSums();
        due.end();
    }

    private static FrontDoor ring(int servers) {
        FrontDoor x = Doors.with(servers, 1, 200, 0);
        x.rule(2);
        return x;
    }

    private static void marks() {
        due.says("Terms", "at (40503 times (4 k and m and 1)) modulo 65536");
        FrontDoor x = ring(8);
        for (int k = 0; k < 8; k++) {
            for (int m = 0; m < 4; m++) {
                due.is("mark(" + k + ", " + m + ")", x.mark(k, m), (int) (40503L * (4 * k + m + 1) % 65536));
            }
        }
        due.is("the least of them", x.mark(3, 0), 2251);
        due.is("the greatest of them", x.mark(5, 0), 64131);
        due.is("the last one", x.mark(7, 3), 50912);
    }

    private static void marksAtOnePlace() {
        due.says("Terms", "(of MARKS at one place the least SERVER)");
        FrontDoor x = ring(8);
        boolean[] taken = new boolean[65536];
        for (int k = 0; k < 8; k++) {
            for (int m = 0; m < 4; m++) {
                due.holds("a place that no other MARK has", !taken[x.mark(k, m)]);
                taken[x.mark(k, m)] = true;
            }
        }
    }

    private static void behindTheLastMark() {
        due.says("Terms", "From the KEY on, upwards, around: the first MARK whose SERVER may");
        FrontDoor x = ring(8);
        due.is("at the last MARK", x.pick(64131), 5);
        due.is("one behind it", x.pick(64132), 3);
        due.is("at the last place", x.pick(65535), 3);
        due.is("at the first place", x.pick(0), 3);
        due.is("at the first MARK", x.pick(2251), 3);
        due.is("one behind that", x.pick(2252), 6);
        due.is("a CALL goes there too", x.callOf(x.call(65535, 0, 2000, false), 6), 3);
        due.is("the next one around", x.pick(65535), 6);
    }

    private static void atAMark() {
        due.says("Terms", "From the KEY on, upwards, around: the first MARK whose SERVER may");
        FrontDoor x = ring(8);
        for (int k = 0; k < 8; k++) {
            for (int m = 0; m < 4; m++) {
                due.is("at MARK " + m + " of " + k, x.pick(x.mark(k, m)), k);
                due.is("one ahead of MARK " + m + " of " + k, x.pick(x.mark(k, m) - 1), k);
                due.holds("one behind MARK " + m + " of " + k, x.pick(x.mark(k, m) + 1) != k);
            }
        }
    }

    private static void everyKey() {
        due.says("Terms", "RING: each SERVER k has MARKS m 0 to 3 on a ring of 65536 places");
        for (int servers = 1; servers <= 8; servers++) {
            FrontDoor x = ring(servers);
            int[] at = new int[65536];
            java.util.Arrays.fill(at, -1);
            for (int k = 0; k < servers; k++) {
                for (int m = 0; m < 4; m++) {
                    at[(int) (40503L * (4 * k + m + 1) % 65536)] = k;
                }
            }
            int next = -1;
            int wrong = 0;
            // Twice down the ring: the first time around only finds who is next behind the last place.
            for (int step = 2 * 65536 - 1; step >= 0; step--) {
                int key = step % 65536;
                next = at[key] >= 0 ? at[key] : next;
                if (step < 65536 && x.pick(key) != next) {
                    wrong++;
                }
            }
            due.is("KEYS that go wrong with " + servers + " SERVERS", wrong, 0);
        }
    }

    private static void pastThoseThatMayNot() {
        due.says("Terms", "the first MARK whose SERVER may");
        FrontDoor x = ring(8);
        // By places from the last MARK on: 5, around, 3, 6, 1, 4, 7, 2, and 0 last.
        int[] want = {5, 3, 6, 1, 4, 7, 2, 0, -9};
        for (int n = 0; n < want.length; n++) {
            due.is("pick " + n, x.pick(64131), want[n]);
            due.is("asked " + n, x.callOf(x.call(64131, 0, 2000, false), 6), want[n]);
        }
    }

    private static void oneServer() {
        due.says("Terms", "From the KEY on, upwards, around");
        FrontDoor x = ring(1);
        for (int key : new int[] {0, 15469, 15470, 15471, 55973, 55974, 65535}) {
            due.is("one SERVER, pick(" + key + ")", x.pick(key), 0);
        }
        x.drain(0);
        due.is("around, and nobody", x.pick(55974), -9);
    }

    private static void greatestCredits() {
        due.says("Terms", "those of all that may become more by their WEIGHTS");
        FrontDoor x = new FrontDoor();
        for (int k = 0; k < 8; k++) {
            x.server(100, 0, 20, 1, 0);
        }
        for (int n = 0; n < 200; n++) {
            due.is("in turn", x.callOf(x.call(0, 0, 2000, false), 6), n % 8);
            x.ticks(1);
        }
        due.is("CREDIT after full rounds", x.serverOf(7, 9), 1000000000);
    }

    private static void leastCredit() {
        due.says("Promise 15", "9 CREDIT and 1000000000");
        FrontDoor x = new FrontDoor();
        for (int k = 0; k < 8; k++) {
            x.server(100, 0, 20, 200, 0);
        }
        x.call(0, 0, 2000, false);
        due.is("100 less 800", x.serverOf(0, 9), 999999300);
        due.is("100", x.serverOf(7, 9), 1000000100);
    }

    private static void greatestFractions() {
        due.says("Terms", "the one with the fewest OPEN ASKINGS by WEIGHT (as fractions), of several the least number.");
        FrontDoor x = new FrontDoor();
        x.server(99, 0, 20, 200, 0);
        x.server(100, 0, 20, 200, 0);
        x.rule(1);
        // The least number first, as both have none; then n/100 is below n/99, but n/99 is below (n + 1)/100.
        for (int n = 0; n < 40; n++) {
            due.is("99 and 100: CALL " + n, x.callOf(x.call(0, 0, 2000, false), 6), n < 2 ? n : 1 - n % 2);
        }
        x = new FrontDoor();
        x.server(1, 0, 20, 200, 0);
        x.server(100, 0, 20, 200, 0);
        x.rule(1);
        for (int n = 0; n < 21; n++) {
            due.is("1 and 100: CALL " + n, x.callOf(x.call(0, 0, 2000, false), 6), n == 0 ? 0 : 1);
        }
        due.is("20 of 100 is ROOM taken up", x.pick(0), 0);
    }

    private static void greatestSums() {
        due.says("Promise 12", "-6 above 20000 in all.");
        FrontDoor x = new FrontDoor();
        x.ticks(20000);
        for (int n : new int[] {HIGH - 19999, HIGH - 20000, HIGH, 1}) {
            due.refused(x, "ticks(" + n + ") in the last TICK", -6, () -> x.ticks(n));
        }
        due.says("Promise 10", "ticks above 2000, 200 CALLS.");
        for (int n : new int[] {HIGH - 19999, HIGH - 20000, HIGH}) {
            due.refused(x, "a DUE of " + n + " TICKS in the last TICK", -6, () -> x.call(0, 0, n, true));
        }
        due.says("Promise 16", "-1; -2 (no such MARK).");
        FrontDoor y = ring(8);
        due.refused(y, "a MARK whose place would wrap around", -2, () -> y.mark(7, HIGH));
        due.refused(y, "a MARK of another SERVER, told as of this one", -2, () -> y.mark(0, 4));
        due.refused(y, "a MARK of the SERVER ahead, told as of this one", -2, () -> y.mark(1, -1));
    }
}
