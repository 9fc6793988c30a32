import java.util.ArrayList;

/** Gives calls to servers by rules; the words in capitals in the document are the names used here. */
public final class FrontDoor {
    private static final int MAX_SERVERS = 8;
    private static final int MAX_CALLS = 200;
    private static final int MAX_TICK = 20000;
    private static final int MAX_DUE = 2000;
    private static final int MAX_WEIGHT = 100;
    private static final int MAX_ROOM = 20;
    private static final int MAX_PACE = 200;
    private static final int MAX_BREAKS = 20;
    private static final int MAX_LIMIT = 10;
    private static final int MAX_BUDGET = 100;
    private static final int MAX_HEDGE = 500;
    private static final int MAX_KEY = 65535;
    private static final int MAX_GRADE = 3;

    private static final int ZONES = 4;
    private static final int ANY_ZONE = -1;
    private static final int MARKS = 4;
    private static final int MARK_STEP = 40503;
    private static final int RING_MASK = 65535;
    private static final int LEAST_PENALTY = 10;
    private static final int MAX_PENALTY = 320;
    private static final int CREDIT_SHOWN_FROM = 1000000000;
    private static final int NEVER = -1;

    private static final int WELL = 0;
    private static final int OUT = 1;
    private static final int TRYING = 2;
    private static final int DRAINING = 3;
    private static final int GONE = 4;

    private static final int QUEUED = 0;
    private static final int OPEN = 1;
    private static final int ANSWERED = 2;
    private static final int FAILED = 3;
    private static final int TURNED = 4;

    private static final int TURN = 0;
    private static final int RING = 2;
    private static final int NEAR = 3;

    private static final int FINE = 0;
    private static final int NOBODY = -1;
    private static final int OTHER = -2;
    private static final int STATE = -3;
    private static final int BELOW = -4;
    private static final int NO_ROOM = -6;
    private static final int NONE = -9;

    private final ArrayList<Server> servers;
    private final ArrayList<Call> calls;
    /** The CALLS that have not ended, by numbers: a TICK looks at these alone, as it may pass 20000 times. */
    private final ArrayList<Call> live;
    /** THE QUEUE, always in the order in which it is asked. */
    private final ArrayList<Call> line;
    /** How many REFUSALS there were, at the place of their number without its sign. */
    private final int[] refusals;
    private int tick;
    private int ruleNow;
    private int limitNow;
    private int budgetNow;
    private int hedgeNow;
    private int agains;
    private int seconds;
    private int endedSoFar;

    public FrontDoor() {
        servers = new ArrayList<>();
        calls = new ArrayList<>();
        live = new ArrayList<>();
        line = new ArrayList<>();
        refusals = new int[7];
        ruleNow = TURN;
        limitNow = 3;
        budgetNow = 20;
    }

    public int server(int weight, int zone, int room, int pace, int breaks) {
        if (zone < 0 || zone >= ZONES) {
            return refuse(NOBODY);
        }
        if (weight < 1 || room < 1 || pace < 1 || breaks < 0) {
            return refuse(BELOW);
        }
        if (weight > MAX_WEIGHT || room > MAX_ROOM || pace > MAX_PACE || breaks > MAX_BREAKS) {
            return refuse(NO_ROOM);
        }
        if (servers.size() >= MAX_SERVERS) {
            return refuse(NO_ROOM);
        }
        Server s = new Server(servers.size(), weight, zone, room, pace, breaks);
        servers.add(s);
        return s.number;
    }

    public int set(int server, int what, int v) {
        Server s = serverAt(server);
        if (s == null) {
            return refuse(NOBODY);
        }
        if (what < 0 || what > 4) {
            return refuse(OTHER);
        }
        if (s.health == GONE) {
            return refuse(STATE);
        }
        int fault = faultOf(v, leastOf(what), greatestOf(what));
        return fault != FINE ? refuse(fault) : s.change(what, v);
    }

    public int drain(int server) {
        Server s = serverAt(server);
        if (s == null) {
            return refuse(NOBODY);
        }
        if (s.health == DRAINING || s.health == GONE) {
            return refuse(STATE);
        }
        s.health = s.open == 0 ? GONE : DRAINING;
        return s.open;
    }

    public int back(int server) {
        Server s = serverAt(server);
        if (s == null) {
            return refuse(NOBODY);
        }
        if (s.health != DRAINING && s.health != GONE) {
            return refuse(STATE);
        }
        s.health = TRYING;
        s.row = 0;
        s.penalty = LEAST_PENALTY;
        return 1;
    }

    public int rule(int r) {
        if (r < TURN || r > NEAR) {
            return refuse(NOBODY);
        }
        int was = ruleNow;
        ruleNow = r;
        return was;
    }

    public int limit(int n) {
        int fault = faultOf(n, 1, MAX_LIMIT);
        if (fault != FINE) {
            return refuse(fault);
        }
        int was = limitNow;
        limitNow = n;
        return was;
    }

    public int budget(int n) {
        int fault = faultOf(n, 0, MAX_BUDGET);
        if (fault != FINE) {
            return refuse(fault);
        }
        int was = budgetNow;
        budgetNow = n;
        return was;
    }

    public int hedge(int n) {
        int fault = faultOf(n, 0, MAX_HEDGE);
        if (fault != FINE) {
            return refuse(fault);
        }
        int was = hedgeNow;
        hedgeNow = n;
        return was;
    }

    public int call(int key, int grade, int ticks, boolean safe) {
        if (key < 0 || grade < 0 || ticks < 1) {
            return refuse(BELOW);
        }
        if (key > MAX_KEY || grade > MAX_GRADE || ticks > MAX_DUE || calls.size() >= MAX_CALLS) {
            return refuse(NO_ROOM);
        }
        Call c = new Call(calls.size(), key, grade, tick, tick + ticks, safe);
        calls.add(c);
        live.add(c);
        if (!askByRule(c)) {
            joinLine(c);
        }
        return c.number;
    }

    public int off(int call) {
        Call c = callAt(call);
        if (c == null) {
            return refuse(NOBODY);
        }
        if (c.hasEnded()) {
            return refuse(STATE);
        }
        if (c.state == QUEUED) {
            leaveLine(c);
        }
        c.callOffAll();
        end(c, TURNED);
        dropEnded();
        return 1;
    }

    public int ticks(int n) {
        // Against what is left, as a sum with n could wrap around.
        int fault = faultOf(n, 1, MAX_TICK - tick);
        if (fault != FINE) {
            return refuse(fault);
        }
        int before = endedSoFar;
        for (int i = 0; i < n; i++) {
            passTick();
        }
        return endedSoFar - before;
    }

    public int pick(int key) {
        int fault = faultOf(key, 0, MAX_KEY);
        if (fault != FINE) {
            return refuse(fault);
        }
        Server s = chosen(key, 0);
        return s == null ? NONE : s.number;
    }

    public int callOf(int call, int what) {
        Call c = callAt(call);
        if (c == null) {
            return refuse(NOBODY);
        }
        return what < 0 || what > 10 ? refuse(OTHER) : c.tell(what);
    }

    public int serverOf(int server, int what) {
        Server s = serverAt(server);
        if (s == null) {
            return refuse(NOBODY);
        }
        return what < 0 || what > 15 ? refuse(OTHER) : s.tell(what);
    }

    public int mark(int server, int m) {
        Server s = serverAt(server);
        if (s == null) {
            return refuse(NOBODY);
        }
        return m < 0 || m >= MARKS ? refuse(OTHER) : s.placeOfMark(m);
    }

    public int queue(int i) {
        return i < 0 || i >= line.size() ? NONE : line.get(i).number;
    }

    public int share(int server) {
        Server s = serverAt(server);
        if (s == null) {
            return refuse(NOBODY);
        }
        int all = askingsSoFar();
        return all == 0 ? 0 : s.asked * 1000 / all;
    }

    public int count(int what) {
        if (what >= 3 && what <= 7) {
            return callsThatAre(what - 3);
        }
        if (what >= 11 && what <= 16) {
            return refusals[what - 10];
        }
        switch (what) {
            case 0: return tick;
            case 1: return servers.size();
            case 2: return calls.size();
            case 8: return askingsSoFar();
            case 9: return agains;
            case 10: return seconds;
            case 17: return openAskings();
            default: return NONE;
        }
    }

    // ---- looking up and refusing

    private Server serverAt(int k) {
        return k < 0 || k >= servers.size() ? null : servers.get(k);
    }

    private Call callAt(int n) {
        return n < 0 || n >= calls.size() ? null : calls.get(n);
    }

    private int refuse(int code) {
        int place = -code;
        if (place >= 0 && place < refusals.length) {
            refusals[place]++;
        }
        return code;
    }

    private static int faultOf(int v, int least, int greatest) {
        return v < least ? BELOW : v > greatest ? NO_ROOM : FINE;
    }

    private static int leastOf(int what) {
        return what <= 2 ? 1 : 0;
    }

    private static int greatestOf(int what) {
        switch (what) {
            case 0: return MAX_WEIGHT;
            case 1: return MAX_ROOM;
            case 2: return MAX_PACE;
            case 3: return MAX_BREAKS;
            default: return 1;
        }
    }

    // ---- counting

    private int callsThatAre(int state) {
        int found = 0;
        for (int i = 0; i < calls.size(); i++) {
            if (calls.get(i).state == state) {
                found++;
            }
        }
        return found;
    }

    private int askingsSoFar() {
        int sum = 0;
        for (int k = 0; k < servers.size(); k++) {
            sum += servers.get(k).asked;
        }
        return sum;
    }

    private int openAskings() {
        int sum = 0;
        for (int k = 0; k < servers.size(); k++) {
            sum += servers.get(k).open;
        }
        return sum;
    }

    // ---- PICKING: none of these changes anything but settleCredits

    private Server chosen(int key, int tried) {
        if (ruleNow == TURN) {
            return byTurn(tried);
        }
        if (ruleNow == RING) {
            return byRing(key, tried);
        }
        // FEWEST is what is left, and NEAR too where nobody near may.
        Server near = ruleNow == NEAR ? byFewest(tried, key % ZONES) : null;
        return near != null ? near : byFewest(tried, ANY_ZONE);
    }

    private Server byTurn(int tried) {
        Server best = null;
        for (int k = 0; k < servers.size(); k++) {
            Server s = servers.get(k);
            if (s.mayBeAsked(tried) && (best == null || s.credit + s.weight > best.credit + best.weight)) {
                best = s;
            }
        }
        return best;
    }

    private Server byFewest(int tried, int zone) {
        Server best = null;
        for (int k = 0; k < servers.size(); k++) {
            Server s = servers.get(k);
            boolean fits = (zone == ANY_ZONE || s.zone == zone) && s.mayBeAsked(tried);
            // Two fractions are compared crosswise, so that nothing is cut.
            if (fits && (best == null || s.open * best.weight < best.open * s.weight)) {
                best = s;
            }
        }
        return best;
    }

    private Server byRing(int key, int tried) {
        Server best = null;
        int bestWay = RING_MASK + 1;
        for (int k = 0; k < servers.size(); k++) {
            Server s = servers.get(k);
            if (s.mayBeAsked(tried) && s.wayFrom(key) < bestWay) {
                best = s;
                bestWay = s.wayFrom(key);
            }
        }
        return best;
    }

    private void settleCredits(int tried, Server picked) {
        int weights = 0;
        for (int k = 0; k < servers.size(); k++) {
            Server s = servers.get(k);
            if (s.mayBeAsked(tried)) {
                s.credit += s.weight;
                weights += s.weight;
            }
        }
        picked.credit -= weights;
    }

    // ---- asking, THE QUEUE and the end of a CALL

    private boolean askByRule(Call c) {
        Server s = chosen(c.key, c.tried);
        if (s == null) {
            return false;
        }
        if (ruleNow == TURN) {
            settleCredits(c.tried, s);
        }
        c.begin(s.takeAsking(tick));
        return true;
    }

    private void joinLine(Call c) {
        c.state = QUEUED;
        int place = 0;
        while (place < line.size() && line.get(place).goesAheadOf(c)) {
            place++;
        }
        line.add(place, c);
    }

    private void leaveLine(Call c) {
        for (int i = 0; i < line.size(); i++) {
            if (line.get(i).number == c.number) {
                line.remove(i);
                return;
            }
        }
    }

    private void end(Call c, int state) {
        c.state = state;
        c.ended = tick;
        endedSoFar++;
    }

    private void dropEnded() {
        for (int i = live.size() - 1; i >= 0; i--) {
            if (live.get(i).hasEnded()) {
                live.remove(i);
            }
        }
    }

    // ---- a TICK passes

    private void passTick() {
        tick++;
        takeWhatIsOver();
        meetDues();
        dropEnded();
        tryThoseOut();
        hedgeSlow();
        askQueued();
        letDrainedGo();
    }

    private void takeWhatIsOver() {
        for (int i = 0; i < live.size(); i++) {
            Call c = live.get(i);
            Asking first = c.first;
            Asking second = c.second;
            if (first != null && first.over == tick) {
                takeAnswer(c, first);
            }
            // The first one's answer may have called the second one off.
            if (second != null && second.over == tick && c.state == OPEN) {
                takeAnswer(c, second);
            }
        }
    }

    private void takeAnswer(Call c, Asking a) {
        if (!a.fails) {
            a.server.answer();
            c.answerer = a.server.number;
            c.callOffAll();
            end(c, ANSWERED);
            return;
        }
        c.letGo(a);
        failureOf(a.server);
        if (c.first != null) {
            return;
        }
        if (c.safe && tick < c.due && budgetHolds()) {
            agains++;
            joinLine(c);
        } else {
            end(c, FAILED);
        }
    }

    private boolean budgetHolds() {
        return 100 * (agains + 1) <= budgetNow * calls.size();
    }

    private void failureOf(Server s) {
        s.failures++;
        s.row++;
        if (s.health == WELL && s.row >= limitNow) {
            if (oneMoreOutIsTooMany()) {
                s.row = 0;
            } else {
                s.goOut(tick);
            }
        } else if (s.health == TRYING) {
            if (oneMoreOutIsTooMany()) {
                s.health = WELL;
            } else {
                s.goOut(tick);
            }
        }
    }

    private boolean oneMoreOutIsTooMany() {
        int out = 1;
        int all = 0;
        for (int k = 0; k < servers.size(); k++) {
            int health = servers.get(k).health;
            if (health == OUT) {
                out++;
            }
            if (health == WELL || health == TRYING || health == OUT) {
                all++;
            }
        }
        return out > all / 2;
    }

    private void meetDues() {
        for (int i = 0; i < live.size(); i++) {
            Call c = live.get(i);
            if (c.due != tick) {
                continue;
            }
            if (c.state == OPEN) {
                failByDue(c);
            } else if (c.state == QUEUED) {
                leaveLine(c);
                end(c, TURNED);
            }
        }
    }

    private void failByDue(Call c) {
        Asking first = c.first;
        Asking second = c.second;
        c.callOffAll();
        if (first != null) {
            failureOf(first.server);
        }
        if (second != null) {
            failureOf(second.server);
        }
        end(c, FAILED);
    }

    private void tryThoseOut() {
        for (int k = 0; k < servers.size(); k++) {
            Server s = servers.get(k);
            if (s.health == OUT && s.until == tick) {
                s.health = TRYING;
            }
        }
    }

    private void hedgeSlow() {
        if (hedgeNow == 0) {
            return;
        }
        for (int i = 0; i < live.size(); i++) {
            Call c = live.get(i);
            Asking only = c.second == null ? c.first : null;
            if (only == null || !c.safe || only.since + hedgeNow != tick) {
                continue;
            }
            Server other = byFewest(c.tried, ANY_ZONE);
            if (other != null) {
                c.begin(other.takeAsking(tick));
                seconds++;
            }
        }
    }

    private void askQueued() {
        int waiting = line.size();
        int place = 0;
        for (int n = 0; n < waiting && place < line.size(); n++) {
            if (askByRule(line.get(place))) {
                line.remove(place);
            } else {
                place++;
            }
        }
    }

    private void letDrainedGo() {
        for (int k = 0; k < servers.size(); k++) {
            Server s = servers.get(k);
            if (s.health == DRAINING && s.open == 0) {
                s.health = GONE;
            }
        }
    }

    private static final class Server {
        final int number;
        final int zone;
        int weight;
        int room;
        int pace;
        int breaks;
        int mute;
        int health;
        int open;
        int asked;
        int answers;
        int failures;
        int row;
        int until;
        int penalty;
        int outs;
        int credit;

        Server(int number, int weight, int zone, int room, int pace, int breaks) {
            this.number = number;
            this.weight = weight;
            this.zone = zone;
            this.room = room;
            this.pace = pace;
            this.breaks = breaks;
            this.health = WELL;
            this.penalty = LEAST_PENALTY;
        }

        boolean mayBeAsked(int tried) {
            if ((tried >> number & 1) != 0 || open >= room) {
                return false;
            }
            return health == WELL || health == TRYING && open == 0;
        }

        int placeOfMark(int m) {
            return MARK_STEP * (MARKS * number + m + 1) & RING_MASK;
        }

        int wayFrom(int key) {
            int least = RING_MASK;
            for (int m = 0; m < MARKS; m++) {
                least = Math.min(least, placeOfMark(m) - key & RING_MASK);
            }
            return least;
        }

        /** PACE, BREAKS and MUTE may be set later, so what becomes of an ASKING is settled as it begins. */
        Asking takeAsking(int now) {
            asked++;
            open++;
            int over = mute == 1 ? NEVER : now + pace;
            boolean fails = breaks != 0 && asked % breaks == 0;
            return new Asking(this, now, over, fails);
        }

        void answer() {
            answers++;
            row = 0;
            penalty = LEAST_PENALTY;
            if (health == TRYING) {
                health = WELL;
            }
        }

        void goOut(int now) {
            health = OUT;
            until = now + penalty;
            penalty = Math.min(MAX_PENALTY, 2 * penalty);
            outs++;
            row = 0;
        }

        int change(int what, int v) {
            int was = tell(what == 0 ? 10 : what + 11);
            switch (what) {
                case 0: weight = v; break;
                case 1: room = v; break;
                case 2: pace = v; break;
                case 3: breaks = v; break;
                default: mute = v; break;
            }
            return was;
        }

        int tell(int what) {
            switch (what) {
                case 0: return health;
                case 1: return open;
                case 2: return asked;
                case 3: return answers;
                case 4: return failures;
                case 5: return row;
                case 6: return health == OUT ? until : NONE;
                case 7: return penalty;
                case 8: return outs;
                case 9: return credit + CREDIT_SHOWN_FROM;
                case 10: return weight;
                case 11: return zone;
                case 12: return room;
                case 13: return pace;
                case 14: return breaks;
                default: return mute;
            }
        }
    }

    private static final class Asking {
        final Server server;
        final int since;
        final int over;
        final boolean fails;

        Asking(Server server, int since, int over, boolean fails) {
            this.server = server;
            this.since = since;
            this.over = over;
            this.fails = fails;
        }
    }

    private static final class Call {
        final int number;
        final int key;
        final int grade;
        final int came;
        final int due;
        final boolean safe;
        int state;
        int tried;
        int ended;
        int answerer;
        Asking first;
        Asking second;

        Call(int number, int key, int grade, int came, int due, boolean safe) {
            this.number = number;
            this.key = key;
            this.grade = grade;
            this.came = came;
            this.due = due;
            this.safe = safe;
            this.state = QUEUED;
            this.ended = NONE;
            this.answerer = NONE;
        }

        boolean hasEnded() {
            return state != QUEUED && state != OPEN;
        }

        boolean goesAheadOf(Call other) {
            if (grade != other.grade) {
                return grade > other.grade;
            }
            return due != other.due ? due < other.due : number < other.number;
        }

        void begin(Asking a) {
            if (first == null) {
                first = a;
            } else {
                second = a;
            }
            tried |= 1 << a.server.number;
            state = OPEN;
        }

        void letGo(Asking a) {
            a.server.open--;
            if (a == first) {
                first = second;
            }
            second = null;
        }

        void callOffAll() {
            if (second != null) {
                letGo(second);
            }
            if (first != null) {
                letGo(first);
            }
        }

        int tell(int what) {
            switch (what) {
                case 0: return state;
                case 1: return key;
                case 2: return grade;
                case 3: return due;
                case 4: return safe ? 1 : 0;
                case 5: return first == null ? 0 : second == null ? 1 : 2;
                case 6: return first == null ? answerer : first.server.number;
                case 7: return second == null ? NONE : second.server.number;
                case 8: return tried;
                case 9: return came;
                default: return ended;
            }
        }
    }
}
