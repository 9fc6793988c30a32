import java.util.function.IntSupplier;

/** Each REFUSAL, the first that fits in the order told, and that nothing changes but how many there were. */
public final class RefusalsTest {
    private static final Due due = new Due();
    private static final int LOW = Integer.MIN_VALUE;
    private static final int HIGH = Integer.MAX_VALUE;
    private static FrontDoor x;

    public static void main(String[] args) {
        x = busy();
        servers();
        sets();
        healths();
        numbers();
        calls();
        asked();
        due.end();
    }

    /** SERVERS 0 WELL, 1 OUT, 2 DRAINING, 3 GONE, 4 TRYING; CALLS OPEN, QUEUED and ended. */
    private static FrontDoor busy() {
        FrontDoor d = new FrontDoor();
        for (int k = 0; k < 5; k++) {
            d.server(1, k % 4, k == 0 ? 2 : 20, 50, 0);
        }
        d.limit(1);
        d.call(0, 0, 90, true);
        d.call(0, 0, 1, false);
        d.call(0, 0, 90, false);
        d.drain(2);
        d.drain(3);
        d.drain(4);
        d.back(4);
        d.ticks(1);
        for (int n = 0; n < 4; n++) {
            d.call(n, n, 90, true);
        }
        return d;
    }

    private static void refused(String call, int code, IntSupplier made) {
        String before = Due.picture(x);
        int[] counted = new int[7];
        for (int i = 1; i <= 6; i++) {
            counted[i] = x.count(10 + i);
        }
        due.is(call, made.getAsInt(), code);
        for (int i = 1; i <= 6; i++) {
            due.is(call + ": how many -" + i, x.count(10 + i), counted[i] + (i == -code ? 1 : 0));
        }
        due.holds(call + ": nothing changed", before.equals(Due.picture(x)));
    }

    private static void servers() {
        int[] health = {0, 1, 3, 4, 2};
        for (int k = 0; k < health.length; k++) {
            due.is("HEALTH of " + k, x.serverOf(k, 0), health[k]);
        }
        due.holds("QUEUED, OPEN and ended CALLS", x.count(3) > 0 && x.count(4) > 0 && x.count(6) > 0);
        refused("ZONE 4", -1, () -> x.server(1, 4, 1, 1, 0));
        refused("ZONE -1", -1, () -> x.server(1, -1, 1, 1, 0));
        refused("ZONE ahead of below", -1, () -> x.server(0, 4, 0, 0, -1));
        refused("ZONE ahead of above", -1, () -> x.server(101, -1, 1, 1, 0));
        refused("WEIGHT 0", -4, () -> x.server(0, 0, 1, 1, 0));
        refused("ROOM 0", -4, () -> x.server(1, 0, 0, 1, 0));
        refused("PACE 0", -4, () -> x.server(1, 0, 1, 0, 0));
        refused("BREAKS -1", -4, () -> x.server(1, 0, 1, 1, -1));
        refused("below ahead of above", -4, () -> x.server(101, 0, 1, 1, -1));
        refused("below ahead of above, behind", -4, () -> x.server(LOW, 0, 21, 201, 21));
        refused("WEIGHT 101", -6, () -> x.server(101, 0, 1, 1, 0));
        refused("ROOM 21", -6, () -> x.server(1, 0, 21, 1, 0));
        refused("PACE 201", -6, () -> x.server(1, 0, 1, 201, 0));
        refused("BREAKS 21", -6, () -> x.server(1, 0, 1, 1, 21));
        FrontDoor kept = x;
        x = busy();
        for (int k = 5; k < 8; k++) {
            due.is("up to 8", x.server(1, 0, 1, 1, 0), k);
        }
        refused("a ninth", -6, () -> x.server(1, 0, 1, 1, 0));
        refused("a ninth with a ZONE that is none", -1, () -> x.server(1, 9, 1, 1, 0));
        refused("a ninth below", -4, () -> x.server(0, 0, 1, 1, 0));
        x = kept;
    }

    private static void sets() {
        refused("set of nobody", -1, () -> x.set(5, 0, 1));
        refused("set of nobody below 0", -1, () -> x.set(-1, 9, -9));
        refused("set of nobody far", -1, () -> x.set(HIGH, 0, 1));
        refused("set what 5", -2, () -> x.set(0, 5, 1));
        refused("set what -1", -2, () -> x.set(0, -1, 1));
        refused("set what ahead of GONE", -2, () -> x.set(3, 5, -1));
        refused("set GONE ahead of below", -3, () -> x.set(3, 0, 0));
        refused("set GONE ahead of above", -3, () -> x.set(3, 0, 101));
        int[] least = {1, 1, 1, 0, 0};
        int[] most = {100, 20, 200, 20, 1};
        for (int what = 0; what < 5; what++) {
            int w = what;
            refused("set below " + w, -4, () -> x.set(0, w, least[w] - 1));
            refused("set far below " + w, -4, () -> x.set(0, w, LOW));
            refused("set above " + w, -6, () -> x.set(0, w, most[w] + 1));
            refused("set far above " + w, -6, () -> x.set(0, w, HIGH));
        }
    }

    private static void healths() {
        refused("drain of nobody", -1, () -> x.drain(5));
        refused("drain of nobody below 0", -1, () -> x.drain(LOW));
        refused("drain of a DRAINING one", -3, () -> x.drain(2));
        refused("drain of a GONE one", -3, () -> x.drain(3));
        refused("back of nobody", -1, () -> x.back(5));
        refused("back of nobody below 0", -1, () -> x.back(-1));
        refused("back of a WELL one", -3, () -> x.back(0));
        refused("back of an OUT one", -3, () -> x.back(1));
        refused("back of a TRYING one", -3, () -> x.back(4));
    }

    private static void numbers() {
        refused("rule -1", -1, () -> x.rule(-1));
        refused("rule 4", -1, () -> x.rule(4));
        refused("limit 0", -4, () -> x.limit(0));
        refused("limit 11", -6, () -> x.limit(11));
        refused("budget -1", -4, () -> x.budget(-1));
        refused("budget 101", -6, () -> x.budget(101));
        refused("hedge -1", -4, () -> x.hedge(-1));
        refused("hedge 501", -6, () -> x.hedge(501));
        refused("ticks 0", -4, () -> x.ticks(0));
        refused("ticks 20000, one has passed", -6, () -> x.ticks(20000));
        refused("ticks far above", -6, () -> x.ticks(HIGH));
        due.is("settings kept", x.rule(0) * 1000 + x.limit(1) * 100 + x.budget(20) + x.hedge(0), 120);
    }

    private static void calls() {
        refused("key -1", -4, () -> x.call(-1, 0, 1, true));
        refused("grade -1", -4, () -> x.call(0, -1, 1, true));
        refused("ticks 0", -4, () -> x.call(0, 0, 0, true));
        refused("below ahead of above", -4, () -> x.call(65536, 4, 0, true));
        refused("key below ahead of ticks above", -4, () -> x.call(-1, 0, 2001, true));
        refused("key 65536", -6, () -> x.call(65536, 0, 1, true));
        refused("grade 4", -6, () -> x.call(0, 4, 1, true));
        refused("ticks 2001", -6, () -> x.call(0, 0, 2001, true));
        refused("ticks far above", -6, () -> x.call(0, 0, HIGH, true));
        refused("off nobody", -1, () -> x.off(x.count(2)));
        refused("off nobody below 0", -1, () -> x.off(-1));
        refused("off one that FAILED", -3, () -> x.off(1));
        FrontDoor kept = x;
        x = busy();
        for (int n = x.count(2); n < 200; n++) {
            x.call(0, 0, 90, false);
        }
        refused("one CALL above 200", -6, () -> x.call(0, 0, 1, true));
        refused("one above 200, below", -4, () -> x.call(-1, 0, 1, true));
        due.is("pick looks at SERVERS alone", x.pick(0), -9);
        x.back(3);
        due.is("pick for a CALL that could not come", x.pick(0), 3);
        x = kept;
    }

    private static void asked() {
        refused("pick -1", -4, () -> x.pick(-1));
        refused("pick 65536", -6, () -> x.pick(65536));
        refused("callOf nobody", -1, () -> x.callOf(x.count(2), 0));
        refused("callOf nobody ahead of what", -1, () -> x.callOf(-1, -1));
        refused("callOf what 11", -2, () -> x.callOf(0, 11));
        refused("callOf what -1", -2, () -> x.callOf(0, -1));
        refused("serverOf nobody", -1, () -> x.serverOf(5, 0));
        refused("serverOf nobody ahead of what", -1, () -> x.serverOf(-1, 16));
        refused("serverOf what 16", -2, () -> x.serverOf(0, 16));
        refused("serverOf what -1", -2, () -> x.serverOf(0, -1));
        refused("mark of nobody", -1, () -> x.mark(5, 4));
        refused("mark 4", -2, () -> x.mark(0, 4));
        refused("mark -1", -2, () -> x.mark(0, -1));
        refused("share of nobody", -1, () -> x.share(5));
        refused("share of nobody below 0", -1, () -> x.share(-1));
        refused("queue of no place is no REFUSAL", -9, () -> x.queue(-1));
        refused("count of another what is no REFUSAL", -9, () -> x.count(18));
    }
}
