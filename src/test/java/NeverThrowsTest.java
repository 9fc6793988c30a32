import java.util.Random;

/** Any arguments in any state: no call throws or fails to end. A throw ends the test with an exit code that is not 0. */
public final class NeverThrowsTest {
    private static final int[] ODD = {Integer.MIN_VALUE, Integer.MIN_VALUE + 1, -65536, -10, -2, -1, 0, 1, 2, 3, 4, 5, 7, 8,
        10, 11, 15, 16, 17, 18, 20, 21, 100, 101, 199, 200, 201, 500, 501, 2000, 2001, 19999, 20000, 20001, 65535, 65536,
        1 << 30, Integer.MAX_VALUE - 1, Integer.MAX_VALUE};
    private static final Random draw = new Random(7);

    public static void main(String[] args) {
        Due due = new Due();
        for (int run = 0; run < 300; run++) {
            FrontDoor x = new FrontDoor();
            for (int i = 0; i < 512; i++) {
                int got = any(x, draw.nextInt(20));
                due.holds("an answer is none of the machine's: " + got, got >= -9);
            }
        }
        due.end();
    }

    private static int odd() {
        return draw.nextBoolean() ? ODD[draw.nextInt(ODD.length)] : draw.nextInt(6);
    }

    private static int any(FrontDoor x, int which) {
        switch (which) {
            case 0: return x.server(odd(), odd(), odd(), odd(), odd());
            case 1: return x.set(odd(), odd(), odd());
            case 2: return x.drain(odd());
            case 3: return x.back(odd());
            case 4: return x.rule(odd());
            case 5: return x.limit(odd());
            case 6: return x.budget(odd());
            case 7: return x.hedge(odd());
            case 8: return x.off(odd());
            case 9: return x.ticks(odd());
            case 10: return x.pick(odd());
            case 11: return x.callOf(odd(), odd());
            case 12: return x.serverOf(odd(), odd());
            case 13: return x.mark(odd(), odd());
            case 14: return x.queue(odd());
            case 15: return x.share(odd());
            case 16: return x.count(odd());
            default: return x.call(odd(), odd(), odd(), draw.nextBoolean());
        }
    }
}
