import java.util.List;

/** The whole face told a second time: PlainDoor behind the REFUSALS of each promise, for any arguments. */
final class PlainFace {
    final PlainDoor door = new PlainDoor();
    private final int[] refused = new int[7];

    /** Every promise tells its REFUSALS in this one order; 0 if none fits. */
    private int first(boolean nobody, boolean other, boolean state, boolean below, boolean above) {
        int code = nobody ? -1 : other ? -2 : state ? -3 : below ? -4 : above ? -6 : 0;
        refused[-code]++;
        return code;
    }

    private boolean noServer(int k) {
        return k < 0 || k >= door.servers.size();
    }

    private boolean noCall(int n) {
        return n < 0 || n >= door.calls.size();
    }

    private int health(int k) {
        return noServer(k) ? -1 : door.servers.get(k).health;
    }

    int server(int weight, int zone, int room, int pace, int breaks) {
        int code = first(zone < 0 || zone > 3, false, false, weight < 1 || room < 1 || pace < 1 || breaks < 0,
            weight > 100 || room > 20 || pace > 200 || breaks > 20 || door.servers.size() == 8);
        if (code != 0) {
            return code;
        }
        door.server(weight, zone, room, pace, breaks);
        return door.servers.size() - 1;
    }

    int set(int k, int what, int v) {
        int[] least = {1, 1, 1, 0, 0};
        int[] most = {100, 20, 200, 20, 1};
        boolean other = what < 0 || what > 4;
        int code = first(noServer(k), other, health(k) == 4, !other && v < least[what], !other && v > most[what]);
        if (code != 0) {
            return code;
        }
        PlainDoor.Srv s = door.servers.get(k);
        int[] was = {s.weight, s.room, s.pace, s.breaks, s.mute ? 1 : 0};
        s.weight = what == 0 ? v : s.weight;
        s.room = what == 1 ? v : s.room;
        s.pace = what == 2 ? v : s.pace;
        s.breaks = what == 3 ? v : s.breaks;
        s.mute = what == 4 ? v == 1 : s.mute;
        return was[what];
    }

    int drain(int k) {
        int code = first(noServer(k), false, health(k) >= 3, false, false);
        return code != 0 ? code : door.drain(k);
    }

    int back(int k) {
        int code = first(noServer(k), false, health(k) < 3, false, false);
        if (code == 0) {
            door.back(k);
        }
        return code != 0 ? code : 1;
    }

    int rule(int r) {
        int code = first(r < 0 || r > 3, false, false, false, false);
        int was = door.rule;
        door.rule = code == 0 ? r : was;
        return code != 0 ? code : was;
    }

    int limit(int n) {
        int code = first(false, false, false, n < 1, n > 10);
        int was = door.limit;
        door.limit = code == 0 ? n : was;
        return code != 0 ? code : was;
    }

    int budget(int n) {
        int code = first(false, false, false, n < 0, n > 100);
        int was = door.budget;
        door.budget = code == 0 ? n : was;
        return code != 0 ? code : was;
    }

    int hedge(int n) {
        int code = first(false, false, false, n < 0, n > 500);
        int was = door.hedge;
        door.hedge = code == 0 ? n : was;
        return code != 0 ? code : was;
    }

    int call(int key, int grade, int ticks, boolean safe) {
        int code = first(false, false, false, key < 0 || grade < 0 || ticks < 1,
            key > 65535 || grade > 3 || ticks > 2000 || door.calls.size() == 200);
        if (code != 0) {
            return code;
        }
        door.call(key, grade, ticks, safe);
        return door.calls.size() - 1;
    }

    int off(int n) {
        int code = first(noCall(n), false, !noCall(n) && door.calls.get(n).state > 1, false, false);
        if (code == 0) {
            door.off(n);
        }
        return code != 0 ? code : 1;
    }

    int ticks(int n) {
        int code = first(false, false, false, n < 1, (long) door.tick + n > 20000);
        return code != 0 ? code : door.ticks(n);
    }

    int pick(int key) {
        int code = first(false, false, false, key < 0, key > 65535);
        return code != 0 ? code : door.picked(key, List.of(), false);
    }

    int callOf(int n, int what) {
        int code = first(noCall(n), what < 0 || what > 10, false, false, false);
        return code != 0 ? code : door.shownOfCall(n)[what];
    }

    int serverOf(int k, int what) {
        int code = first(noServer(k), what < 0 || what > 15, false, false, false);
        return code != 0 ? code : door.shownOfServer(k)[what];
    }

    int mark(int k, int m) {
        int code = first(noServer(k), m < 0 || m > 3, false, false, false);
        return code != 0 ? code : (int) (40503L * (4L * k + m + 1) % 65536);
    }

    int queue(int i) {
        List<Integer> all = door.queue();
        return i < 0 || i >= all.size() ? -9 : all.get(i);
    }

    int share(int k) {
        int code = first(noServer(k), false, false, false, false);
        if (code != 0) {
            return code;
        }
        return door.asked() == 0 ? 0 : door.servers.get(k).asked * 1000 / door.asked();
    }

    int count(int what) {
        int open = 0;
        for (int k = 0; k < door.servers.size(); k++) {
            open += door.open(k);
        }
        int[] all = {door.tick, door.servers.size(), door.calls.size(), door.inState(0), door.inState(1),
            door.inState(2), door.inState(3), door.inState(4), door.asked(), door.agains, door.seconds, refused[1],
            refused[2], refused[3], refused[4], refused[5], refused[6], open};
        return what < 0 || what > 17 ? -9 : all[what];
    }
}
