/** Promise 1, a new object; 6 rule; 7 limit; 8 budget; 9 hedge. */
public final class SettingsTest {
    private static final Due due = new Due();

    public static void main(String[] args) {
        newObject();
        rule();
        limit();
        budget();
        hedge();
        due.end();
    }

    private static void newObject() {
        FrontDoor x = new FrontDoor();
        for (int what = 0; what <= 17; what++) {
            due.is("new: count(" + what + ")", x.count(what), 0);
        }
        due.is("new: pick", x.pick(0), -9);
        due.is("new: queue", x.queue(0), -9);
        due.is("new: rule", x.rule(0), 0);
        due.is("new: limit", x.limit(3), 3);
        due.is("new: budget", x.budget(20), 20);
        due.is("new: hedge", x.hedge(0), 0);
        due.is("new: nothing refused", x.count(11) + x.count(14) + x.count(16), 0);
    }

    private static void rule() {
        FrontDoor x = new FrontDoor();
        for (int r = 1; r <= 3; r++) {
            due.is("rule(" + r + ")", x.rule(r), r - 1);
        }
        due.is("rule(4)", x.rule(4), -1);
        due.is("rule(-1)", x.rule(-1), -1);
        due.is("rule(MAX)", x.rule(Integer.MAX_VALUE), -1);
        due.is("rule kept", x.rule(0), 3);
        due.is("refused", x.count(11), 3);
    }

    private static void limit() {
        FrontDoor x = new FrontDoor();
        due.is("limit(1)", x.limit(1), 3);
        due.is("limit(10)", x.limit(10), 1);
        due.is("limit(0)", x.limit(0), -4);
        due.is("limit(11)", x.limit(11), -6);
        due.is("limit(MIN)", x.limit(Integer.MIN_VALUE), -4);
        due.is("limit kept", x.limit(5), 10);
        due.is("limit: -4", x.count(14), 2);
        due.is("limit: -6", x.count(16), 1);
    }

    private static void budget() {
        FrontDoor x = new FrontDoor();
        due.is("budget(0)", x.budget(0), 20);
        due.is("budget(100)", x.budget(100), 0);
        due.is("budget(-1)", x.budget(-1), -4);
        due.is("budget(101)", x.budget(101), -6);
        due.is("budget kept", x.budget(7), 100);
        due.is("budget: -4", x.count(14), 1);
        due.is("budget: -6", x.count(16), 1);
    }

    private static void hedge() {
        FrontDoor x = new FrontDoor();
        due.is("hedge(500)", x.hedge(500), 0);
        due.is("hedge(1)", x.hedge(1), 500);
        due.is("hedge(0)", x.hedge(0), 1);
        due.is("hedge(-1)", x.hedge(-1), -4);
        due.is("hedge(501)", x.hedge(501), -6);
        due.is("hedge kept", x.hedge(9), 0);
        due.is("hedge: -4", x.count(14), 1);
        due.is("hedge: -6", x.count(16), 1);
    }
}
