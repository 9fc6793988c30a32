import java.util.Random;

/** Long runs of calls, drawn from fixed seeds, on FrontDoor and on PlainDoor side by side: both must show the same. */
public final class RandomRunsTest {
    private static final int RUNS = 1500;
    private static final int CALLS = 160;
    private final Random draw;
    private final FrontDoor x = new FrontDoor();
    private final PlainDoor y = new PlainDoor();
    private final String name;
    private final int longest;

    private RandomRunsTest(int seed) {
        draw = new Random(seed);
        name = "run " + seed;
        longest = seed % 3 == 0 ? 40 : 4;
    }

    public static void main(String[] args) {
        int[] seen = new int[6];
        for (int seed = 1; seed <= RUNS; seed++) {
            RandomRunsTest run = new RandomRunsTest(seed);
            run.play();
            run.note(seen);
        }
        Due all = new Due();
        String[] what = {"AGAINS", "second ASKINGS", "TURNED away", "FAILED", "GONE", "OUT many times"};
        for (int i = 0; i < seen.length; i++) {
            all.holds("the runs came to " + what[i] + " often enough (" + seen[i] + ")", seen[i] > 100);
        }
        all.end();
    }

    private void note(int[] seen) {
        seen[0] += x.count(9);
        seen[1] += x.count(10);
        seen[2] += x.count(7);
        seen[3] += x.count(6);
        for (int k = 0; k < x.count(1); k++) {
            seen[4] += x.serverOf(k, 0) == 4 ? 1 : 0;
            seen[5] += x.serverOf(k, 8) >= 3 ? 1 : 0;
        }
    }

    private void play() {
        int servers = 1 + draw.nextInt(5);
        for (int k = 0; k < servers; k++) {
            addServer();
        }
        set("budget", draw.nextInt(3) * 50);
        set("limit", 1 + draw.nextInt(3));
        set("rule", draw.nextInt(4));
        set("hedge", draw.nextInt(4));
        for (int i = 0; i < CALLS; i++) {
            step();
            compare();
        }
    }

    private void step() {
        int kind = draw.nextInt(100);
        int k = draw.nextInt(y.servers.size());
        if (kind < 40 && y.calls.size() < 200) {
            addCall();
        } else if (kind < 75) {
            int n = 1 + draw.nextInt(longest);
            check("ticks(" + n + ")", x.ticks(n), y.ticks(n));
        } else if (kind < 80) {
            health(k);
        } else if (kind < 84) {
            cancel();
        } else if (kind < 93) {
            change(k);
        } else if (kind < 95 && y.servers.size() < 8) {
            addServer();
        } else {
            settings();
        }
    }

    private void addServer() {
        int weight = 1 + draw.nextInt(5);
        int zone = draw.nextInt(4);
        int room = 1 + draw.nextInt(4);
        int pace = 1 + draw.nextInt(8);
        int breaks = draw.nextInt(4);
        check("server", x.server(weight, zone, room, pace, breaks), y.servers.size());
        y.server(weight, zone, room, pace, breaks);
    }

    private void addCall() {
        int key = draw.nextInt(65536);
        int grade = draw.nextInt(4);
        int ticks = 1 + draw.nextInt(20);
        boolean safe = draw.nextInt(4) > 0;
        check("call", x.call(key, grade, ticks, safe), y.calls.size());
        y.call(key, grade, ticks, safe);
    }

    private void health(int k) {
        int now = y.servers.get(k).health;
        if (now >= 3) {
            check("back", x.back(k), 1);
            y.back(k);
        } else {
            check("drain", x.drain(k), y.drain(k));
        }
    }

    private void cancel() {
        for (int n = 0; n < y.calls.size(); n++) {
            if (y.calls.get(n).state <= 1) {
                check("off", x.off(n), 1);
                y.off(n);
                return;
            }
        }
    }

    private void change(int k) {
        PlainDoor.Srv s = y.servers.get(k);
        if (s.health == 4) {
            return;
        }
        int what = draw.nextInt(5);
        int v = what == 4 ? draw.nextInt(2) : 1 + draw.nextInt(5);
        int[] was = {s.weight, s.room, s.pace, s.breaks, s.mute ? 1 : 0};
        check("set", x.set(k, what, v), was[what]);
        s.weight = what == 0 ? v : s.weight;
        s.room = what == 1 ? v : s.room;
        s.pace = what == 2 ? v : s.pace;
        s.breaks = what == 3 ? v : s.breaks;
        s.mute = what == 4 ? v == 1 : s.mute;
    }

    private void settings() {
        switch (draw.nextInt(4)) {
            case 0: set("rule", draw.nextInt(4)); break;
            case 1: set("limit", 1 + draw.nextInt(4)); break;
            case 2: set("budget", draw.nextInt(101)); break;
            default: set("hedge", draw.nextInt(5)); break;
        }
    }

    private void set(String which, int v) {
        switch (which) {
            case "rule": check("rule", x.rule(v), y.rule); y.rule = v; break;
            case "limit": check("limit", x.limit(v), y.limit); y.limit = v; break;
            case "budget": check("budget", x.budget(v), y.budget); y.budget = v; break;
            default: check("hedge", x.hedge(v), y.hedge); y.hedge = v; break;
        }
    }

    private void compare() {
        int open = 0;
        for (int k = 0; k < y.servers.size(); k++) {
            int[] shown = y.shownOfServer(k);
            open += shown[1];
            for (int what = 0; what < shown.length; what++) {
                check("serverOf(" + k + ", " + what + ")", x.serverOf(k, what), shown[what]);
            }
            check("share(" + k + ")", x.share(k), y.asked() == 0 ? 0 : shown[2] * 1000 / y.asked());
        }
        for (int n = 0; n < y.calls.size(); n++) {
            int[] shown = y.shownOfCall(n);
            for (int what = 0; what < shown.length; what++) {
                check("callOf(" + n + ", " + what + ")", x.callOf(n, what), shown[what]);
            }
        }
        int place = 0;
        for (int n : y.queue()) {
            check("queue(" + place + ")", x.queue(place), n);
            place++;
        }
        check("queue(" + place + ")", x.queue(place), -9);
        int[] counts = {y.tick, y.servers.size(), y.calls.size(), y.inState(0), y.inState(1), y.inState(2), y.inState(3),
            y.inState(4), y.asked(), y.agains, y.seconds, 0, 0, 0, 0, 0, 0, open};
        for (int what = 0; what < counts.length; what++) {
            check("count(" + what + ")", x.count(what), counts[what]);
        }
        int key = draw.nextInt(65536);
        check("pick(" + key + ")", x.pick(key), y.picked(key, java.util.List.of(), false));
    }

    private void check(String call, int got, int want) {
        if (got != want) {
            System.out.println(name + ", TICK " + y.tick + ": " + call + " answered " + got + ", due is " + want);
            System.exit(1);
        }
    }
}
