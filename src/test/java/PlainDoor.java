import java.util.ArrayList;
import java.util.List;

/**
 * The document told a second time, as plainly as can be and without a thought for speed: every TICK looks at every
 * CALL, THE QUEUE is sorted anew each time. It takes only calls that are not refused.
 */
final class PlainDoor {
    static final class Srv {
        int weight, zone, room, pace, breaks, health, asked, answers, failures, row, until = -9, penalty = 10, outs, credit;
        boolean mute;
    }

    static final class Ask {
        int server, begin, pace;
        boolean fails, mute;
    }

    static final class Cl {
        int key, grade, due, state, came, ended = -9, answerer = -9;
        boolean safe;
        List<Ask> askings = new ArrayList<>();
        List<Integer> tried = new ArrayList<>();
    }

    final List<Srv> servers = new ArrayList<>();
    final List<Cl> calls = new ArrayList<>();
    int tick, rule, limit = 3, budget = 20, hedge, agains, seconds, ended;

    void server(int weight, int zone, int room, int pace, int breaks) {
        Srv s = new Srv();
        s.weight = weight;
        s.zone = zone;
        s.room = room;
        s.pace = pace;
        s.breaks = breaks;
        servers.add(s);
    }

    int open(int k) {
        int n = 0;
        for (Cl c : calls) {
            for (Ask a : c.askings) {
                n += a.server == k ? 1 : 0;
            }
        }
        return n;
    }

    List<Integer> thoseThatMay(List<Integer> tried) {
        List<Integer> may = new ArrayList<>();
        for (int k = 0; k < servers.size(); k++) {
            Srv s = servers.get(k);
            boolean wellEnough = s.health == 0 || (s.health == 2 && open(k) == 0);
            if (!tried.contains(k) && open(k) < s.room && wellEnough) {
                may.add(k);
            }
        }
        return may;
    }

    int fewest(List<Integer> may) {
        int best = may.get(0);
        for (int k : may) {
            double here = (double) open(k) / servers.get(k).weight;
            double there = (double) open(best) / servers.get(best).weight;
            if (here < there) {
                best = k;
            }
        }
        return best;
    }

    int picked(int key, List<Integer> tried, boolean forGood) {
        List<Integer> may = thoseThatMay(tried);
        if (may.isEmpty()) {
            return -9;
        }
        if (rule == 0) {
            return turn(may, forGood);
        }
        if (rule == 1) {
            return fewest(may);
        }
        if (rule == 2) {
            for (int step = 0; step < 65536; step++) {
                for (int k : may) {
                    for (int m = 0; m < 4; m++) {
                        if (40503L * (4 * k + m + 1) % 65536 == (key + step) % 65536) {
                            return k;
                        }
                    }
                }
            }
            throw new IllegalStateException("a ring without marks");
        }
        List<Integer> near = new ArrayList<>();
        for (int k : may) {
            if (servers.get(k).zone == key % 4) {
                near.add(k);
            }
        }
        return fewest(near.isEmpty() ? may : near);
    }

    int turn(List<Integer> may, boolean forGood) {
        int[] credits = new int[servers.size()];
        int sum = 0;
        for (int k = 0; k < credits.length; k++) {
            credits[k] = servers.get(k).credit;
        }
        for (int k : may) {
            credits[k] += servers.get(k).weight;
            sum += servers.get(k).weight;
        }
        int best = may.get(0);
        for (int k : may) {
            best = credits[k] > credits[best] ? k : best;
        }
        credits[best] -= sum;
        for (int k = 0; forGood && k < credits.length; k++) {
            servers.get(k).credit = credits[k];
        }
        return best;
    }

    void ask(Cl c, int k) {
        Srv s = servers.get(k);
        s.asked++;
        Ask a = new Ask();
        a.server = k;
        a.begin = tick;
        a.pace = s.pace;
        a.mute = s.mute;
        a.fails = s.breaks > 0 && s.asked % s.breaks == 0;
        c.askings.add(a);
        c.tried.add(k);
        c.state = 1;
    }

    void call(int key, int grade, int ticks, boolean safe) {
        Cl c = new Cl();
        c.key = key;
        c.grade = grade;
        c.due = tick + ticks;
        c.came = tick;
        c.safe = safe;
        calls.add(c);
        int k = picked(key, c.tried, true);
        if (k >= 0) {
            ask(c, k);
        }
    }

    void end(Cl c, int state) {
        c.state = state;
        c.askings.clear();
        c.ended = tick;
        ended++;
    }

    void off(int n) {
        end(calls.get(n), 4);
    }

    int drain(int k) {
        int n = open(k);
        servers.get(k).health = n == 0 ? 4 : 3;
        return n;
    }

    void back(int k) {
        Srv s = servers.get(k);
        s.health = 2;
        s.row = 0;
        s.penalty = 10;
    }

    void failure(int k) {
        Srv s = servers.get(k);
        s.failures++;
        s.row++;
        boolean well = s.health == 0 && s.row >= limit;
        boolean trying = s.health == 2;
        if (!well && !trying) {
            return;
        }
        int all = 0;
        int out = 1;
        for (Srv t : servers) {
            all += t.health <= 2 ? 1 : 0;
            out += t.health == 1 ? 1 : 0;
        }
        if (out > all / 2) {
            s.health = 0;
            s.row = well ? 0 : s.row;
            return;
        }
        s.health = 1;
        s.until = tick + s.penalty;
        s.penalty = Math.min(320, s.penalty * 2);
        s.outs++;
        s.row = 0;
    }

    int ticks(int n) {
        int before = ended;
        for (int i = 0; i < n; i++) {
            tick++;
            for (Cl c : calls) {
                over(c);
            }
            for (Cl c : calls) {
                due(c);
            }
            for (Srv s : servers) {
                s.health = s.health == 1 && s.until == tick ? 2 : s.health;
            }
            for (Cl c : calls) {
                hedge(c);
            }
            for (int c : queue()) {
                int k = picked(calls.get(c).key, calls.get(c).tried, true);
                if (k >= 0) {
                    ask(calls.get(c), k);
                }
            }
            for (int k = 0; k < servers.size(); k++) {
                if (servers.get(k).health == 3 && open(k) == 0) {
                    servers.get(k).health = 4;
                }
            }
        }
        return ended - before;
    }

    void over(Cl c) {
        for (Ask a : new ArrayList<>(c.askings)) {
            if (c.state != 1 || a.mute || a.begin + a.pace != tick) {
                continue;
            }
            Srv s = servers.get(a.server);
            c.askings.remove(a);
            if (!a.fails) {
                s.answers++;
                s.row = 0;
                s.penalty = 10;
                s.health = s.health == 2 ? 0 : s.health;
                c.answerer = a.server;
                end(c, 2);
                continue;
            }
            failure(a.server);
            if (c.askings.isEmpty()) {
                if (c.safe && tick < c.due && 100 * (agains + 1) <= budget * calls.size()) {
                    agains++;
                    c.state = 0;
                } else {
                    end(c, 3);
                }
            }
        }
    }

    void due(Cl c) {
        if (c.due != tick || c.state > 1) {
            return;
        }
        boolean wasOpen = c.state == 1;
        for (Ask a : c.askings) {
            failure(a.server);
        }
        end(c, wasOpen ? 3 : 4);
    }

    void hedge(Cl c) {
        if (hedge == 0 || c.state != 1 || !c.safe || c.askings.size() != 1 || c.askings.get(0).begin + hedge != tick) {
            return;
        }
        List<Integer> may = thoseThatMay(c.tried);
        if (!may.isEmpty()) {
            ask(c, fewest(may));
            seconds++;
        }
    }

    List<Integer> queue() {
        List<Integer> q = new ArrayList<>();
        for (int n = 0; n < calls.size(); n++) {
            if (calls.get(n).state == 0) {
                q.add(n);
            }
        }
        q.sort((a, b) -> {
            Cl x = calls.get(a);
            Cl y = calls.get(b);
            return x.grade != y.grade ? y.grade - x.grade : x.due != y.due ? x.due - y.due : a - b;
        });
        return q;
    }

    int[] shownOfServer(int k) {
        Srv s = servers.get(k);
        return new int[] {s.health, open(k), s.asked, s.answers, s.failures, s.row, s.health == 1 ? s.until : -9,
            s.penalty, s.outs, s.credit + 1000000000, s.weight, s.zone, s.room, s.pace, s.breaks, s.mute ? 1 : 0};
    }

    int[] shownOfCall(int n) {
        Cl c = calls.get(n);
        int bits = 0;
        for (int k : c.tried) {
            bits |= 1 << k;
        }
        int first = c.askings.isEmpty() ? c.answerer : c.askings.get(0).server;
        int second = c.askings.size() < 2 ? -9 : c.askings.get(1).server;
        return new int[] {c.state, c.key, c.grade, c.due, c.safe ? 1 : 0, c.askings.size(), first, second, bits, c.came,
            c.ended};
    }

    int inState(int state) {
        int n = 0;
        for (Cl c : calls) {
            n += c.state == state ? 1 : 0;
        }
        return n;
    }

    int asked() {
        int n = 0;
        for (Srv s : servers) {
            n += s.asked;
        }
        return n;
    }
}
