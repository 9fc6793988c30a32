import java.util.Random;

/**
 * Runs of 512 calls, drawn from fixed seeds, on FrontDoor and on PlainFace side by side: most numbers are at an end of
 * their range or one off it, objects fill up to 8 SERVERS, 200 CALLS and 20000 TICKS, and every answer is compared.
 */
public final class EdgeRunsTest {
    private static final int RUNS = 900;
    private static final int CALLS = 512;
    private static final int LOW = Integer.MIN_VALUE;
    private static final int HIGH = Integer.MAX_VALUE;
    private final Random draw;
    private final FrontDoor x = new FrontDoor();
    private final PlainFace y = new PlainFace();
    private final int seed;
    /** In some runs CALLS come one upon another, in others TICKS run out. */
    private final boolean crowded;
    private final boolean hasty;
    private String last;
    private int got;
    private int due;

    private EdgeRunsTest(int seed) {
        this.seed = seed;
        draw = new Random(seed);
        crowded = seed % 3 == 0;
        hasty = seed % 5 == 0;
    }

    public static void main(String[] args) {
        int[] seen = new int[8];
        for (int seed = 1; seed <= RUNS; seed++) {
            EdgeRunsTest run = new EdgeRunsTest(seed);
            run.play();
            run.note(seen);
        }
        String[] what = {"8 SERVERS", "200 CALLS", "20000 TICKS", "a REFUSAL -1", "-2", "-3", "-4", "-6"};
        Due all = new Due();
        for (int i = 0; i < seen.length; i++) {
            all.holds("runs that came to " + what[i] + " often enough (" + seen[i] + ")", seen[i] >= 20);
        }
        all.end();
    }

    private void note(int[] seen) {
        seen[0] += y.count(1) == 8 ? 1 : 0;
        seen[1] += y.count(2) == 200 ? 1 : 0;
        seen[2] += y.count(0) == 20000 ? 1 : 0;
        int[] codes = {11, 12, 13, 14, 16};
        for (int i = 0; i < codes.length; i++) {
            seen[3 + i] += y.count(codes[i]) > 0 ? 1 : 0;
        }
    }

    private void play() {
        for (int i = 0; i < CALLS; i++) {
            if (i < 3 || i < CALLS * 3 / 4 && draw.nextInt(100) < 80) {
                act(i < 3 ? 0 : crowded && draw.nextInt(3) > 0 ? 99 : draw.nextInt(100));
            } else {
                ask();
            }
            if (got != due) {
                System.out.println("run " + seed + ", call " + i + ": " + last + " answered " + got + ", due is " + due);
                System.exit(1);
            }
        }
    }

    // ---- drawing numbers

    private int within(int least, int greatest) {
        int kind = draw.nextInt(100);
        if (kind < 4) {
            int[] off = {LOW, LOW + 1, least - 1, least - 2, greatest + 1, greatest + 2, HIGH - 1, HIGH};
            return off[draw.nextInt(off.length)];
        }
        if (kind < 30) {
            return kind % 2 == 0 ? least : greatest;
        }
        int width = kind < 60 ? Math.min(4, greatest - least + 1) : greatest - least + 1;
        return least + draw.nextInt(width);
    }

    private int who(int size) {
        return size == 0 ? within(0, 1) : within(0, size - 1);
    }

    private int server() {
        return who(y.door.servers.size());
    }

    private int howMany() {
        int kind = draw.nextInt(100);
        int left = 20000 - y.door.tick;
        if (kind < 3) {
            return within(1, Math.max(1, left));
        }
        return hasty && kind < 15 ? draw.nextInt(2000) : kind < 25 ? draw.nextInt(60) : 1 + draw.nextInt(4);
    }

    // ---- a call on both

    private void act(int kind) {
        if (kind < 5) {
            addServer();
        } else if (kind < 16) {
            set();
        } else if (kind < 24) {
            health(kind < 20, server());
        } else if (kind < 34) {
            settings(kind);
        } else if (kind < 37) {
            int n = who(y.door.calls.size());
            told("off(" + n + ")", x.off(n), y.off(n));
        } else if (kind < 65) {
            int n = howMany();
            told("ticks(" + n + ")", x.ticks(n), y.ticks(n));
        } else {
            addCall();
        }
    }

    private void addServer() {
        int weight = within(1, 100);
        int zone = within(0, 3);
        int room = within(1, 20);
        int pace = within(1, draw.nextBoolean() ? 5 : 200);
        int breaks = within(0, 20);
        told("server(" + weight + ", " + zone + ", " + room + ", " + pace + ", " + breaks + ")",
            x.server(weight, zone, room, pace, breaks), y.server(weight, zone, room, pace, breaks));
    }

    private void set() {
        int k = server();
        int what = within(0, 4);
        int[] most = {100, 20, 10, 20, 1};
        int v = within(what >= 3 ? 0 : 1, what >= 0 && what <= 4 ? most[what] : 9);
        told("set(" + k + ", " + what + ", " + v + ")", x.set(k, what, v), y.set(k, what, v));
    }

    private void health(boolean back, int k) {
        if (back) {
            told("back(" + k + ")", x.back(k), y.back(k));
        } else {
            told("drain(" + k + ")", x.drain(k), y.drain(k));
        }
    }

    private void settings(int kind) {
        int n = kind < 27 ? within(0, 3) : kind < 29 ? within(1, 10) : kind < 31 ? within(0, 100) : within(0, 500);
        if (kind < 27) {
            told("rule(" + n + ")", x.rule(n), y.rule(n));
        } else if (kind < 29) {
            told("limit(" + n + ")", x.limit(n), y.limit(n));
        } else if (kind < 31) {
            told("budget(" + n + ")", x.budget(n), y.budget(n));
        } else {
            told("hedge(" + n + ")", x.hedge(n), y.hedge(n));
        }
    }

    private void addCall() {
        int key = within(0, 65535);
        int grade = within(0, 3);
        int ticks = within(1, draw.nextInt(4) == 0 ? 2000 : 30);
        boolean safe = draw.nextInt(3) > 0;
        told("call(" + key + ", " + grade + ", " + ticks + ", " + safe + ")", x.call(key, grade, ticks, safe),
            y.call(key, grade, ticks, safe));
    }

    private void ask() {
        int kind = draw.nextInt(100);
        int k = server();
        if (kind < 35) {
            int n = who(y.door.calls.size());
            int what = within(0, 10);
            told("callOf(" + n + ", " + what + ")", x.callOf(n, what), y.callOf(n, what));
        } else if (kind < 70) {
            int what = within(0, 15);
            told("serverOf(" + k + ", " + what + ")", x.serverOf(k, what), y.serverOf(k, what));
        } else if (kind < 82) {
            int what = within(0, 17);
            told("count(" + what + ")", x.count(what), y.count(what));
        } else if (kind < 88) {
            int i = who(y.door.inState(0));
            told("queue(" + i + ")", x.queue(i), y.queue(i));
        } else if (kind < 95) {
            int key = within(0, 65535);
            told("pick(" + key + ")", x.pick(key), y.pick(key));
        } else if (kind < 98) {
            told("share(" + k + ")", x.share(k), y.share(k));
        } else {
            int m = within(0, 3);
            told("mark(" + k + ", " + m + ")", x.mark(k, m), y.mark(k, m));
        }
    }

    private void told(String call, int fromX, int fromY) {
        last = call;
        got = fromX;
        due = fromY;
    }
}
