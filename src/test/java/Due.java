/** Gathers the answers that are not as due, for one test. */
final class Due {
    private int wrong = 0;
    private int asked = 0;

    void is(String call, int got, int want) {
        asked++;
        if (got != want) {
            wrong++;
            System.out.println(call + " answered " + got + ", due is " + want);
        }
    }

    void holds(String what, boolean so) {
        is(what, so ? 1 : 0, 1);
    }

    /** Every number that an object shows, so that two moments can be compared. */
    static String picture(FrontDoor x) {
        StringBuilder b = new StringBuilder();
        for (int what = 0; what <= 17; what++) {
            if (what < 11 || what > 16) {
                b.append(x.count(what)).append(' ');
            }
        }
        for (int s = 0; s < x.count(1); s++) {
            for (int what = 0; what <= 15; what++) {
                b.append(x.serverOf(s, what)).append(' ');
            }
            b.append(x.share(s)).append('\n');
        }
        for (int c = 0; c < x.count(2); c++) {
            for (int what = 0; what <= 10; what++) {
                b.append(x.callOf(c, what)).append(' ');
            }
            b.append('\n');
        }
        for (int i = 0; i < x.count(3); i++) {
            b.append(x.queue(i)).append(' ');
        }
        return b.append(x.pick(0)).append(' ').append(x.pick(1)).append(' ').append(x.pick(40504)).toString();
    }

    void end() {
        System.out.println(asked + " answers, " + wrong + " not as due");
        if (wrong != 0) {
            System.exit(1);
        }
    }
}
