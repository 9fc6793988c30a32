import java.io.IOException;
import java.lang.reflect.Method;
import java.lang.reflect.Modifier;
import java.nio.file.Files;
import java.nio.file.Path;
import java.util.TreeSet;
import java.util.regex.Matcher;
import java.util.regex.Pattern;

/** Sections 'What it is', 'The public face' and 'Terms', sentence by sentence in the document's order. */
public final class WalkTermsTest {
    private static final Due due = new Due();
    private static final int TO_0 = Doors.TO_0;
    private static final int TO_1 = Doors.TO_1;
    private static Walk doc;

    public static void main(String[] args) throws IOException {
        doc = new Walk(due, "What it is", "The public face");
        whatItIs();
        howLong();
        doc.end();
        face();
        doc = new Walk(due, "Terms", "Promise 1:");
        servers();
        calls();
        may();
        turn();
        fewest();
        ring();
        near();
        comes();
        failures();
        halves();
        answer();
        again();
        over();
        dues();
        hedging();
        queue();
        refusals();
        doc.end();
        due.end();
    }

    /** SERVERS 0 and 1 with ROOM 20, picked by the RING. */
    private static FrontDoor two(int pace0, int breaks0, int pace1, int breaks1) {
        FrontDoor x = new FrontDoor();
        x.server(1, 0, 20, pace0, breaks0);
        x.server(1, 0, 20, pace1, breaks1);
        x.rule(2);
        return x;
    }

    // ---- What it is

    private static void whatItIs() {
        doc.says("A front door that gives calls to servers by rules,");
        FrontDoor x = new FrontDoor();
        x.server(3, 0, 20, 9, 0);
        x.server(4, 1, 20, 9, 0);
        x.server(1, 2, 20, 9, 0);
        int[] picked = {1, 0, 1, 2};
        for (int r = 0; r < 4; r++) {
            x.rule(r);
            due.is("RULE " + r, x.pick(5906), picked[r]);
        }
        doc.says("knows their health only by what comes back,");
        x = two(2, 1, 2, 0);
        x.limit(1);
        x.call(TO_0, 0, 9, false);
        x.ticks(1);
        due.is("nothing came back: WELL", x.serverOf(0, 0), 0);
        x.ticks(1);
        due.is("a FAILURE came back: OUT", x.serverOf(0, 0), 1);
        doc.says("tries those that were out carefully,");
        x.ticks(10);
        due.is("one ASKING", x.pick(TO_0), 0);
        x.call(TO_0, 0, 9, false);
        due.is("and none more yet", x.pick(TO_0), 1);
        doc.says("asks a second one where one is slow,");
        x = two(9, 0, 9, 0);
        x.hedge(3);
        x.call(TO_0, 0, 20, true);
        x.ticks(3);
        due.is("two ASKINGS", x.callOf(0, 5), 2);
        doc.says("again within a budget where one failed,");
        x = two(1, 1, 9, 0);
        x.budget(100);
        x.call(TO_0, 0, 20, true);
        x.ticks(1);
        due.is("asked again", x.callOf(0, 6), 1);
        doc.says("queues by grades and dues,");
        x = new FrontDoor();
        x.call(0, 0, 9, true);
        x.call(0, 1, 9, true);
        x.call(0, 1, 8, true);
        due.is("the greatest GRADE, the earliest DUE", x.queue(0), 2);
        due.is("the least GRADE", x.queue(2), 0);
        doc.says("drains without losing any,");
        x = two(3, 0, 3, 0);
        x.call(TO_0, 0, 20, false);
        x.drain(0);
        due.is("ended", x.ticks(3), 1);
        due.is("ANSWERED", x.callOf(0, 0), 2);
        due.is("by the one that drained", x.callOf(0, 6), 0);
        doc.says("and shows that shares are as told.");
        x = new FrontDoor();
        x.server(5, 0, 20, 1, 0);
        x.server(3, 0, 20, 1, 0);
        for (int n = 0; n < 16; n++) {
            x.call(0, 0, 9, false);
            x.ticks(1);
        }
        due.is("5 of 8", x.share(0), 625);
        due.is("3 of 8", x.share(1), 375);
    }

    private static void howLong() {
        doc.says("TICKS go on from 0 (20000 at most).");
        FrontDoor x = new FrontDoor();
        due.is("at first", x.count(0), 0);
        due.is("all", x.ticks(20000), 0);
        due.is("then", x.count(0), 20000);
        due.is("one more", x.ticks(1), -6);
        doc.says("An object is used for at most 512 calls after it has been made; what later calls answer is free.");
        x = new FrontDoor();
        for (int n = 1; n < 512; n++) {
            x.rule(n % 4);
        }
        due.is("the 512th call", x.rule(0), 3);
    }

    // ---- The public face

    private static void face() throws IOException {
        due.about("The public face");
        String all = Files.readString(Path.of("..", "shared", "DOC.md"));
        String block = all.substring(all.indexOf("```java") + 7, all.indexOf("}\n```"));
        due.holds("public final class", block.contains("public final class FrontDoor {")
            && Modifier.isFinal(FrontDoor.class.getModifiers()) && Modifier.isPublic(FrontDoor.class.getModifiers()));
        due.holds("public constructor", block.contains("public FrontDoor();")
            && FrontDoor.class.getConstructors().length == 1
            && FrontDoor.class.getConstructors()[0].getParameterCount() == 0);
        TreeSet<String> told = new TreeSet<>();
        Matcher m = Pattern.compile("public (int \\w+\\([^)]*\\));").matcher(block);
        while (m.find()) {
            told.add(m.group(1).replaceAll("(int|boolean) \\w+([,)])", "$1$2").replace(" ", ""));
        }
        TreeSet<String> shown = new TreeSet<>();
        for (Method method : FrontDoor.class.getDeclaredMethods()) {
            if (Modifier.isPublic(method.getModifiers()) && !Modifier.isStatic(method.getModifiers())) {
                String text = method.toString();
                shown.add("int" + method.getName() + text.substring(text.indexOf('(')).replace(" ", ""));
            }
        }
        due.is("methods in the document", told.size(), 18);
        due.holds("the same: " + told + " and " + shown, told.equals(shown));
    }

    // ---- Terms: SERVERS and CALLS

    private static void servers() {
        doc.says("SERVERS have numbers from 0 on (8 at most): a WEIGHT (1 .. 100), a ZONE (0 .. 3), a ROOM (1 .. 20: OPEN"
            + " ASKINGS at most), a PACE (1 .. 200: TICKS till it answers),");
        FrontDoor x = new FrontDoor();
        due.is("the first", x.server(1, 0, 1, 1, 0), 0);
        due.is("the second", x.server(100, 3, 20, 200, 20), 1);
        int[] least = {1, 0, 1, 1, 0};
        int[] greatest = {100, 3, 20, 200, 20};
        for (int i = 0; i < 5; i++) {
            due.is("least " + i, x.serverOf(0, 10 + i), least[i]);
            due.is("greatest " + i, x.serverOf(1, 10 + i), greatest[i]);
        }
        for (int k = 2; k < 8; k++) {
            due.is("SERVER " + k, x.server(1, 1, 1, 1, 0), k);
        }
        due.is("a ninth", x.server(1, 1, 1, 1, 0), -6);
        doc.says("BREAKS (0 .. 20: each ASKING whose number at this SERVER, from 1 on, is a multiple of it fails; 0 none"
            + " does),");
        x = two(1, 3, 1, 0);
        for (int n = 1; n <= 6; n++) {
            x.call(TO_0, 0, 9, false);
            x.call(TO_1, 0, 9, false);
            x.ticks(1);
            due.is("BREAKS 3: ASKING " + n, x.callOf(2 * n - 2, 0), n % 3 == 0 ? 3 : 2);
            due.is("BREAKS 0: ASKING " + n, x.callOf(2 * n - 1, 0), 2);
        }
        doc.says("whether it is MUTE (an ASKING that begins as it is so is never answered).");
        x = two(2, 0, 2, 0);
        x.set(0, 4, 1);
        x.call(TO_0, 0, 2000, false);
        x.set(0, 4, 0);
        x.call(TO_0, 0, 2000, false);
        x.set(0, 4, 1);
        due.is("one ended", x.ticks(2), 1);
        due.is("the one that began as it was not so", x.callOf(1, 0), 2);
        due.is("never", x.ticks(1997), 0);
        due.is("by the DUE", x.ticks(1), 1);
        due.is("FAILED", x.callOf(0, 0), 3);
        doc.says("HEALTH: 0 WELL, 1 OUT (till a TICK), 2 TRYING, 3 DRAINING, 4 GONE.");
        x = Doors.busy();
        int[] health = {0, 1, 3, 4, 2};
        for (int k = 0; k < 5; k++) {
            due.is("SERVER " + k, x.serverOf(k, 0), health[k]);
        }
    }

    private static void calls() {
        doc.says("CALLS have numbers from 0 on (200 at most): a KEY (0 .. 65535), a GRADE (0 .. 3), a DUE (a TICK), whether"
            + " they are SAFE.");
        FrontDoor x = new FrontDoor();
        x.ticks(5);
        due.is("the first", x.call(0, 0, 1, false), 0);
        due.is("the second", x.call(65535, 3, 2000, true), 1);
        int[] first = {0, 0, 0, 6, 0};
        int[] second = {0, 65535, 3, 2005, 1};
        for (int what = 1; what <= 4; what++) {
            due.is("first: " + what, x.callOf(0, what), first[what]);
            due.is("second: " + what, x.callOf(1, what), second[what]);
        }
        for (int n = 2; n < 200; n++) {
            due.is("CALL " + n, x.call(0, 0, 1, false), n);
        }
        due.is("one too many", x.call(0, 0, 1, false), -6);
        doc.says("A CALL is 0 QUEUED, 1 OPEN (it has one ASKING or two), 2 ANSWERED, 3 FAILED, 4 TURNED away.");
        x = new FrontDoor();
        x.server(1, 0, 3, 4, 0);
        x.server(1, 0, 1, 50, 0);
        x.rule(2);
        x.hedge(5);
        x.call(TO_0, 0, 90, false);
        x.call(TO_0, 0, 2, false);
        x.call(TO_1, 0, 90, true);
        x.call(TO_0, 0, 90, false);
        x.off(3);
        x.ticks(4);
        x.call(TO_0, 0, 90, false);
        x.ticks(1);
        x.set(0, 1, 1);
        x.call(TO_0, 0, 90, false);
        int[] state = {2, 3, 1, 4, 1, 0};
        int[] askings = {0, 0, 2, 0, 1, 0};
        for (int n = 0; n < 6; n++) {
            due.is("CALL " + n, x.callOf(n, 0), state[n]);
            due.is("ASKINGS of CALL " + n, x.callOf(n, 5), askings[n]);
        }
        doc.says("An ASKING is of a CALL at a SERVER since a TICK.");
        due.is("the first of CALL 2", x.callOf(2, 6), 1);
        due.is("the second of CALL 2", x.callOf(2, 7), 0);
        x.ticks(3);
        due.is("since TICK 5", x.callOf(2, 0), 1);
        x.ticks(1);
        due.is("4 TICKS later", x.callOf(2, 10), 9);
        doc.says("TRIED are SERVERS at which a CALL had, or has, an ASKING.");
        due.is("had two", x.callOf(2, 8), 3);
        due.is("had one", x.callOf(1, 8), 1);
        due.is("has one", x.callOf(5, 8), 1);
        x.set(0, 1, 1);
        x.call(TO_0, 0, 90, false);
        x.call(TO_0, 0, 90, false);
        x.call(TO_0, 0, 90, false);
        due.is("none", x.callOf(8, 8), 0);
    }

    // ---- Terms: MAY and PICKING

    private static void may() {
        doc.says("MAY: a SERVER may get an ASKING of a CALL if it is not TRIED by it,");
        FrontDoor x = Doors.with(1, 20, 1, 1);
        x.budget(100);
        x.call(0, 0, 9, true);
        x.ticks(1);
        due.is("AGAIN, but TRIED: QUEUED", x.callOf(0, 0), 0);
        due.is("another CALL's it may", x.pick(0), 0);
        doc.says("has fewer OPEN ASKINGS than ROOM,");
        x = Doors.with(1, 2, 9, 0);
        x.call(0, 0, 20, false);
        due.is("1 of 2", x.pick(0), 0);
        x.call(0, 0, 20, false);
        due.is("2 of 2", x.pick(0), -9);
        doc.says("and is WELL, or TRYING without any.");
        x = Doors.busy();
        x.set(0, 1, 20);
        due.is("WELL", x.pick(0), 0);
        x.drain(0);
        due.is("OUT, DRAINING, GONE, and TRYING with one: none may", x.pick(0), -9);
        int on4 = -1;
        for (int c = 0; c < x.count(2); c++) {
            on4 = x.callOf(c, 6) == 4 ? c : on4;
        }
        x.off(on4);
        due.is("TRYING without any", x.pick(0), 4);
        doc.says("PICKING of a SERVER, of those that may, by the RULE:");
        for (int r = 0; r < 4; r++) {
            x.rule(r);
            due.is("RULE " + r, x.pick(1), 4);
        }
    }

    private static void turn() {
        doc.says("0 TURN: CREDITS (one for each SERVER, 0 at first): those of all that may become more by their WEIGHTS;"
            + " the one with the greatest is picked, of several the least number; its CREDIT is less by the WEIGHTS of all"
            + " that may.");
        FrontDoor x = new FrontDoor();
        x.server(5, 0, 20, 9, 0);
        x.server(1, 0, 20, 9, 0);
        x.server(1, 0, 20, 9, 0);
        due.is("0 at first", x.serverOf(1, 9), 1000000000);
        int[] picked = {0, 0, 1, 0, 2, 0, 0};
        int[][] credits = {{-2, 1, 1}, {-4, 2, 2}, {1, -4, 3}, {-1, -3, 4}, {4, -2, -2}, {2, -1, -1}, {0, 0, 0}};
        for (int n = 0; n < 7; n++) {
            due.is("pick " + n, x.pick(0), picked[n]);
            x.call(0, 0, 99, false);
            due.is("CALL " + n, x.callOf(n, 6), picked[n]);
            for (int k = 0; k < 3; k++) {
                due.is("CREDIT of " + k + " then", x.serverOf(k, 9), 1000000000 + credits[n][k]);
            }
        }
        x.drain(0);
        x.call(0, 0, 99, false);
        due.is("of two that may", x.callOf(7, 6), 1);
        int[] then = {0, -1, 1};
        for (int k = 0; k < 3; k++) {
            due.is("CREDIT of " + k + " as 0 drains", x.serverOf(k, 9), 1000000000 + then[k]);
        }
    }

    private static void fewest() {
        doc.says("1 FEWEST: the one with the fewest OPEN ASKINGS by WEIGHT (as fractions), of several the least number.");
        FrontDoor x = new FrontDoor();
        x.server(2, 0, 20, 9, 0);
        x.server(3, 0, 20, 9, 0);
        x.rule(1);
        int[] picked = {0, 1, 1, 0, 1, 0};
        for (int n = 0; n < 6; n++) {
            due.is("pick " + n, x.pick(0), picked[n]);
            x.call(0, 0, 99, false);
            due.is("CALL " + n, x.callOf(n, 6), picked[n]);
        }
        due.is("no CREDIT by this RULE", x.serverOf(0, 9), 1000000000);
    }

    private static void ring() {
        doc.says("2 RING: each SERVER k has MARKS m 0 to 3 on a ring of 65536 places: at (40503 times (4 k and m and 1))"
            + " modulo 65536.");
        FrontDoor x = Doors.with(2, 1, 9, 0);
        int[] marks = {40503, 15470, 55973, 30940, 5907, 46410, 21377, 61880};
        for (int i = 0; i < 8; i++) {
            due.is("MARK " + i % 4 + " of " + i / 4, x.mark(i / 4, i % 4), marks[i]);
        }
        doc.says("From the KEY on, upwards, around: the first MARK whose SERVER may");
        x.rule(2);
        int[] keys = {0, 5907, 5908, 15470, 15471, 21378, 30941, 40503, 40504, 46411, 55974, 61880, 61881, 65535};
        int[] picked = {1, 1, 0, 0, 1, 0, 0, 0, 1, 0, 1, 1, 1, 1};
        for (int i = 0; i < keys.length; i++) {
            due.is("pick(" + keys[i] + ")", x.pick(keys[i]), picked[i]);
        }
        x.call(TO_1, 0, 99, false);
        for (int key : keys) {
            due.is("SERVER 1 may not: pick(" + key + ")", x.pick(key), 0);
        }
        doc.says("(of MARKS at one place the least SERVER).");
        x = Doors.with(8, 1, 9, 0);
        TreeSet<Integer> places = new TreeSet<>();
        for (int i = 0; i < 32; i++) {
            places.add(x.mark(i / 4, i % 4));
        }
        due.is("no two MARKS are at one place", places.size(), 32);
    }

    private static void near() {
        doc.says("3 NEAR: as FEWEST of those whose ZONE is the KEY modulo 4; without any of all.");
        FrontDoor x = new FrontDoor();
        x.server(1, 1, 1, 9, 0);
        x.server(1, 2, 2, 9, 0);
        x.server(2, 2, 1, 9, 0);
        x.rule(3);
        due.is("ZONE 1", x.pick(65533), 0);
        due.is("ZONE 2, the least number", x.pick(6), 1);
        x.call(2, 0, 99, false);
        due.is("ZONE 2, the fewest", x.pick(2), 2);
        x.call(2, 0, 99, false);
        due.is("ZONE 2, the one with ROOM", x.pick(2), 1);
        due.is("none in ZONE 3: of all the fewest", x.pick(3), 0);
        x.call(1, 0, 99, false);
        due.is("none in ZONE 1 may: of all", x.pick(1), 1);
        x.call(1, 0, 99, false);
        due.is("none may", x.pick(1), -9);
        x.server(1, 0, 2, 9, 0);
        x.call(0, 0, 99, false);
        x.off(0);
        x.off(3);
        due.is("ZONE 0, though ZONE 2 has fewer", x.pick(65532), 3);
    }

    // ---- Terms: a CALL comes, FAILURES, answers, AGAIN

    private static void comes() {
        doc.says("A CALL comes: if one may, it is picked and asked at once; else the CALL is QUEUED.");
        FrontDoor x = Doors.with(1, 1, 9, 0);
        x.call(0, 0, 99, false);
        due.is("OPEN", x.callOf(0, 0), 1);
        due.is("its SERVER", x.callOf(0, 6), 0);
        x.call(0, 0, 99, false);
        due.is("QUEUED", x.callOf(1, 0), 0);
        due.is("no SERVER", x.callOf(1, 6), -9);
        doc.says("AN ASKING fails, or is not answered by the CALL's DUE: a FAILURE of the SERVER.");
        x = two(2, 1, 9, 0);
        x.call(TO_0, 0, 20, false);
        x.call(TO_1, 0, 3, false);
        x.ticks(2);
        due.is("it failed", x.serverOf(0, 4), 1);
        due.is("its DUE is not yet", x.serverOf(1, 4), 0);
        x.ticks(1);
        due.is("by the DUE", x.serverOf(1, 4), 1);
    }

    private static void failures() {
        doc.says("FAILURES in a row (answers that are none make it 0 again):");
        FrontDoor x = two(1, 0, 9, 0);
        int[] breaks = {1, 1, 0, 1, 1, 1};
        int[] row = {1, 2, 0, 1, 2, 0};
        for (int n = 0; n < 6; n++) {
            x.set(0, 3, breaks[n]);
            x.call(TO_0, 0, 9, false);
            x.ticks(1);
            due.is("in a row " + n, x.serverOf(0, 5), row[n]);
            due.is("HEALTH " + n, x.serverOf(0, 0), n == 5 ? 1 : 0);
        }
        due.is("in all", x.serverOf(0, 4), 5);
        doc.says("at LIMIT (1 .. 10; 3 at first) a WELL one, at the first a TRYING one, is OUT for PENALTY TICKS from now"
            + " (FAILURES in a row 0): 10, twice as many each time again without an answer in between, 320 at most;");
        due.is("LIMIT at first", x.limit(10), 3);
        int now = 6;
        int[] penalties = {10, 20, 40, 80, 160, 320, 320};
        for (int i = 0; i < penalties.length; i++) {
            due.is("OUT up to, " + i, x.serverOf(0, 6), now + penalties[i]);
            due.is("in a row, " + i, x.serverOf(0, 5), 0);
            due.is("times OUT, " + i, x.serverOf(0, 8), i + 1);
            due.is("next PENALTY, " + i, x.serverOf(0, 7), Math.min(320, 2 * penalties[i]));
            x.ticks(penalties[i]);
            due.is("TRYING, " + i, x.serverOf(0, 0), 2);
            x.call(TO_0, 0, 9, false);
            x.ticks(1);
            now += penalties[i] + 1;
        }
    }

    private static void halves() {
        doc.says("but not if then of all SERVERS that are WELL, TRYING or OUT more than half were OUT (halves cut):");
        for (int all = 1; all <= 8; all++) {
            FrontDoor x = Doors.with(all, 20, 1, 1);
            x.limit(1);
            for (int n = 0; n < all; n++) {
                x.call(0, 0, 9, false);
            }
            x.ticks(1);
            int out = 0;
            for (int k = 0; k < all; k++) {
                out += x.serverOf(k, 0) == 1 ? 1 : 0;
                due.is("HEALTH of " + k + " of " + all, x.serverOf(k, 0), k < all / 2 ? 1 : 0);
            }
            due.is("OUT of " + all, out, all / 2);
        }
        doc.says("then a WELL one stays so with FAILURES 0,");
        FrontDoor x = Doors.with(1, 20, 1, 1);
        int[] row = {1, 2, 0, 1};
        for (int n = 0; n < 4; n++) {
            x.call(0, 0, 9, false);
            x.ticks(1);
            due.is("WELL " + n, x.serverOf(0, 0), 0);
            due.is("in a row " + n, x.serverOf(0, 5), row[n]);
        }
        due.is("in all", x.serverOf(0, 4), 4);
        due.is("never OUT", x.serverOf(0, 8), 0);
        due.is("PENALTY next", x.serverOf(0, 7), 10);
        doc.says("a TRYING one becomes WELL.");
        x.drain(0);
        x.back(0);
        due.is("TRYING", x.serverOf(0, 0), 2);
        x.call(0, 0, 9, false);
        x.ticks(1);
        due.is("WELL", x.serverOf(0, 0), 0);
        due.is("never OUT, still", x.serverOf(0, 8), 0);
    }

    private static void answer() {
        doc.says("An answer: a TRYING SERVER is WELL; PENALTY is 10 again.");
        FrontDoor x = two(1, 1, 9, 0);
        x.limit(1);
        x.call(TO_0, 0, 9, false);
        x.ticks(11);
        due.is("TRYING", x.serverOf(0, 0), 2);
        due.is("PENALTY next", x.serverOf(0, 7), 20);
        x.set(0, 3, 0);
        x.call(TO_0, 0, 9, false);
        x.ticks(1);
        due.is("WELL", x.serverOf(0, 0), 0);
        due.is("10 again", x.serverOf(0, 7), 10);
        due.is("answers", x.serverOf(0, 3), 1);
    }

    private static void again() {
        doc.says("AGAIN: a SAFE CALL whose last ASKING failed ahead of its DUE is QUEUED again,");
        FrontDoor x = Doors.with(1, 20, 3, 1);
        x.budget(100);
        x.call(0, 0, 4, true);
        x.call(0, 0, 4, false);
        x.call(0, 0, 3, true);
        due.is("ended", x.ticks(3), 2);
        due.is("QUEUED again", x.callOf(0, 0), 0);
        due.is("not SAFE", x.callOf(1, 0), 3);
        due.is("not ahead of its DUE", x.callOf(2, 0), 3);
        due.is("AGAINS", x.count(9), 1);
        doc.says("if 100 times (AGAINS so far and this one) is not above BUDGET (0 .. 100; 20 at first) times CALLS that"
            + " came so far; else it has FAILED.");
        x = Doors.with(1, 20, 1, 1);
        due.is("BUDGET at first", x.budget(20), 20);
        for (int n = 0; n < 9; n++) {
            x.call(0, 0, 9, true);
        }
        due.is("9 came: 100 is not above 180, 200 is", x.ticks(1), 8);
        due.is("the first by number", x.callOf(0, 0), 0);
        due.is("the second", x.callOf(1, 0), 3);
        x.call(0, 0, 9, true);
        due.is("10 came: 200 is not above 200", x.ticks(1), 0);
        due.is("AGAINS", x.count(9), 2);
        x.budget(0);
        x.call(0, 0, 9, true);
        due.is("BUDGET 0: 300 is above 0", x.ticks(1), 1);
        x = Doors.with(1, 20, 1, 1);
        x.budget(33);
        for (int n = 0; n < 3; n++) {
            x.call(0, 0, 9, true);
        }
        due.is("3 came, BUDGET 33: 100 is above 99", x.ticks(1), 3);
    }

    // ---- Terms: a TICK passes

    private static void over() {
        doc.says("A TICK passes: TICK is 1 more.");
        FrontDoor x = two(4, 0, 2, 1);
        x.ticks(1);
        due.is("TICK", x.count(0), 1);
        doc.says("1 OPEN CALLS, by numbers, each ASKING that is over (PACE TICKS behind its begin, as PACE was then; the"
            + " first one ahead): it is answered, or fails.");
        x.call(TO_0, 0, 99, false);
        x.call(TO_1, 0, 99, false);
        x.set(0, 2, 1);
        x.set(1, 2, 200);
        due.is("the second one's TICK is 3", x.ticks(2), 1);
        due.is("fails", x.callOf(1, 0), 3);
        due.is("the first one's is 5", x.ticks(1), 0);
        x.ticks(1);
        due.is("is answered", x.callOf(0, 0), 2);
        due.is("in TICK", x.callOf(0, 10), 5);
        x = Doors.with(3, 1, 1, 1);
        x.limit(1);
        x.rule(2);
        x.call(TO_1, 0, 9, false);
        x.call(TO_0, 0, 9, false);
        x.ticks(1);
        due.is("by numbers: CALL 0's SERVER is OUT", x.serverOf(1, 0), 1);
        due.is("CALL 1's may not be so", x.serverOf(0, 0), 0);
        x = twoAskings(1, 1);
        x.ticks(1);
        due.is("the first one ahead: its SERVER is OUT", x.serverOf(1, 0), 1);
        due.is("the second one's may not be so", x.serverOf(0, 0), 0);
        doc.says("The first answer makes the CALL ANSWERED, its other ASKING is called off (neither a FAILURE nor an"
            + " answer).");
        x = twoAskings(0, 0);
        x.ticks(1);
        due.is("ANSWERED", x.callOf(0, 0), 2);
        due.is("by the first one", x.callOf(0, 6), 1);
        due.is("its answer", x.serverOf(1, 3), 1);
        due.is("no answer of the other", x.serverOf(0, 3), 0);
        due.is("no FAILURE of the other", x.serverOf(0, 4), 0);
        due.is("no ASKING is OPEN", x.count(17), 0);
    }

    /** A CALL whose two ASKINGS, the first at SERVER 1, the second at 0, are over in the next TICK. LIMIT is 1. */
    private static FrontDoor twoAskings(int breaks1, int breaks0) {
        FrontDoor x = two(2, breaks0, 4, breaks1);
        x.limit(1);
        x.hedge(2);
        x.call(TO_1, 0, 9, true);
        x.ticks(3);
        return x;
    }

    private static void dues() {
        doc.says("2 CALLS, by numbers, whose DUE is this TICK, and that are OPEN: each ASKING of theirs is a FAILURE of its"
            + " SERVER, the first one ahead, the CALL has FAILED; QUEUED: TURNED away.");
        FrontDoor x = two(50, 0, 50, 0);
        x.limit(1);
        x.hedge(1);
        x.set(0, 1, 1);
        x.set(1, 1, 1);
        x.call(TO_1, 0, 5, true);
        x.ticks(1);
        x.call(TO_1, 0, 4, true);
        due.is("ahead of it", x.ticks(3), 0);
        due.is("its TICK", x.ticks(1), 2);
        due.is("FAILED", x.callOf(0, 0), 3);
        due.is("a FAILURE of its first", x.serverOf(1, 4), 1);
        due.is("and of its second", x.serverOf(0, 4), 1);
        due.is("the first one ahead: OUT", x.serverOf(1, 0), 1);
        due.is("the second may not be so", x.serverOf(0, 0), 0);
        due.is("TURNED away", x.callOf(1, 0), 4);
        doc.says("3 OUT ones whose TICK this is are TRYING.");
        x.ticks(9);
        due.is("one ahead", x.serverOf(1, 0), 1);
        x.ticks(1);
        due.is("TRYING", x.serverOf(1, 0), 2);
        due.is("in TICK", x.count(0), 15);
    }

    private static void hedging() {
        doc.says("4 HEDGING: OPEN CALLS, by numbers, that are SAFE, have one ASKING, which began HEDGE TICKS ago (HEDGE 0:"
            + " none; 1 .. 500): if another SERVER may, it is PICKED as by FEWEST: a second ASKING.");
        FrontDoor x = new FrontDoor();
        x.server(1, 0, 20, 200, 0);
        x.server(1, 0, 2, 200, 0);
        x.server(1, 0, 1, 200, 0);
        x.rule(2);
        for (int n = 0; n < 5; n++) {
            x.call(TO_0, 0, 99, n != 1);
        }
        x.ticks(2);
        due.is("HEDGE 0: none", x.count(10), 0);
        x.hedge(3);
        x.ticks(1);
        int[] second = {1, -9, 2, 1, -9};
        for (int n = 0; n < 5; n++) {
            due.is("second of CALL " + n, x.callOf(n, 7), second[n]);
        }
        due.is("second ASKINGS", x.count(10), 3);
        x.off(0);
        x.ticks(5);
        due.is("it began longer ago: none", x.callOf(4, 5), 1);
        due.is("the greatest HEDGE", x.hedge(500), 3);
    }

    private static void queue() {
        doc.says("5 THE QUEUE: by GRADE, the greater first, then DUE, the earlier first, then number: each CALL for which"
            + " one may is asked.");
        FrontDoor x = new FrontDoor();
        int[] grades = {0, 3, 3, 1, 3};
        int[] dues = {9, 9, 8, 2, 8};
        for (int n = 0; n < 5; n++) {
            x.call(0, grades[n], dues[n], false);
        }
        int[] order = {2, 4, 1, 3, 0};
        for (int i = 0; i < 5; i++) {
            due.is("place " + i, x.queue(i), order[i]);
        }
        x.server(1, 0, 3, 50, 0);
        x.ticks(1);
        int[] state = {0, 1, 1, 0, 1};
        for (int n = 0; n < 5; n++) {
            due.is("CALL " + n, x.callOf(n, 0), state[n]);
        }
        x = two(1, 1, 50, 0);
        x.budget(100);
        x.set(1, 1, 1);
        x.call(TO_1, 0, 99, false);
        x.call(TO_0, 3, 99, true);
        x.ticks(1);
        x.set(0, 1, 1);
        x.call(TO_0, 0, 99, false);
        x.call(TO_0, 0, 99, false);
        x.ticks(1);
        due.is("for the greater GRADE none may", x.queue(0), 1);
        due.is("for the next one may", x.callOf(3, 0), 1);
        doc.says("6 DRAINING ones without OPEN ASKINGS are GONE.");
        x = Doors.with(1, 2, 2, 0);
        x.call(0, 0, 9, false);
        x.ticks(1);
        x.call(0, 0, 9, false);
        x.drain(0);
        x.ticks(1);
        due.is("with one", x.serverOf(0, 0), 3);
        x.ticks(1);
        due.is("without", x.serverOf(0, 0), 4);
    }

    // ---- Terms: REFUSALS

    private static void refusals() {
        doc.says("REFUSALS (the call answers the number, the first that fits in the order in which it tells them; nothing"
            + " changes but how many there were):");
        FrontDoor x = Doors.busy();
        due.refused(x, "set: nobody ahead of what", -1, () -> x.set(5, 5, 1));
        due.refused(x, "set: what ahead of GONE", -2, () -> x.set(3, 5, 0));
        due.refused(x, "set: GONE ahead of below", -3, () -> x.set(3, 0, 0));
        due.refused(x, "server: ZONE ahead of below", -1, () -> x.server(0, 4, 0, 0, -1));
        due.refused(x, "server: below ahead of above", -4, () -> x.server(101, 0, 0, 1, 0));
        doc.says("-1 NOBODY: no such SERVER, CALL, RULE, ZONE.");
        due.refused(x, "SERVER", -1, () -> x.drain(5));
        due.refused(x, "CALL", -1, () -> x.off(7));
        due.refused(x, "RULE", -1, () -> x.rule(4));
        due.refused(x, "ZONE", -1, () -> x.server(1, 4, 1, 1, 0));
        FrontDoor y = Doors.busy();
        doc.says("-2 OTHER: what.");
        due.refused(y, "what", -2, () -> y.callOf(0, 11));
        doc.says("-3 STATE: a SERVER, or CALL, that is not as it must be.");
        due.refused(y, "SERVER", -3, () -> y.back(0));
        due.refused(y, "CALL", -3, () -> y.off(1));
        doc.says("-4 BELOW: a number below the least.");
        due.refused(y, "below", -4, () -> y.limit(0));
        doc.says("-6 ROOM: a number above the greatest, no room.");
        due.refused(y, "above", -6, () -> y.limit(11));
        FrontDoor full = Doors.with(8, 1, 1, 0);
        due.refused(full, "no room", -6, () -> full.server(1, 0, 1, 1, 0));
    }
}
