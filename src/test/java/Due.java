import java.io.IOException;
import java.nio.file.Files;
import java.nio.file.Path;
import java.util.function.IntSupplier;

/** Gathers the answers that are not as due, for one test. */
final class Due {
    private static final Path DOC = Path.of("..", "shared", "DOC.md");
    private int wrong = 0;
    private int asked = 0;
    private String sentence = "";

    /** The sentence that the next answers are about: it is told with each that is wrong, and must stand in the document. */
    void says(String section, String words) {
        sentence = section + ", '" + words + "': ";
        String text = textOf(section);
        if (text != null) {
            holds("this stands there", text.contains(words));
        }
    }

    /** As says, where Walk looks that the words stand in the document. */
    void about(String words) {
        sentence = "'" + words + "': ";
    }

    private static String textOf(String section) {
        if (!Files.isReadable(DOC)) {
            return null;
        }
        try {
            for (String part : Files.readString(DOC).split("(?m)^## ")) {
                if (part.startsWith(section + ":") || part.startsWith(section + "\n")) {
                    return part.replaceAll("\\s+", " ");
                }
            }
            return "";
        } catch (IOException e) {
            return "";
        }
    }

    void is(String call, int got, int want) {
        asked++;
        if (got != want) {
            wrong++;
            System.out.println(sentence + call + " answered " + got + ", due is " + want);
        }
    }

    void holds(String what, boolean so) {
        is(what, so ? 1 : 0, 1);
    }

    /** A REFUSAL: its number is answered and counted, and nothing else changes. -9 is none, so nothing at all changes. */
    void refused(FrontDoor x, String call, int code, IntSupplier made) {
        String before = picture(x);
        int[] counted = refusals(x);
        is(call, made.getAsInt(), code);
        int[] now = refusals(x);
        for (int i = 1; i <= 6; i++) {
            is(call + ": how many -" + i, now[i], counted[i] + (i == -code ? 1 : 0));
        }
        holds(call + ": nothing changed", before.equals(picture(x)));
    }

    static int[] refusals(FrontDoor x) {
        int[] n = new int[7];
        for (int i = 1; i <= 6; i++) {
            n[i] = x.count(10 + i);
        }
        return n;
    }

    /**
     * Every number that an object shows but REFUSALS, so that two moments can be compared. Two pictures of a door with
     * 5 SERVERS and 7 CALLS stay within the 512 calls of an object; a full one's don't, and need not, as FrontDoor
     * doesn't look at how many calls there were.
     */
    static String picture(FrontDoor x) {
        StringBuilder b = new StringBuilder();
        for (int what = 0; what <= 17; what++) {
            if (what < 11 || what > 16) {
                b.append(x.count(what)).append(' ');
            }
        }
        for (int s = 0; s < x.count(1); s++) {
            for (int what = 0; what <= 15; what++) {
                b.append(x.serverOf(s, what)).append(' ');
            }
            b.append(x.share(s)).append('\n');
        }
        for (int c = 0; c < x.count(2); c++) {
            for (int what = 0; what <= 10; what++) {
                b.append(x.callOf(c, what)).append(' ');
            }
            b.append('\n');
        }
        for (int i = 0; i < x.count(3); i++) {
            b.append(x.queue(i)).append(' ');
        }
        return b.append(x.pick(0)).append(' ').append(x.pick(1)).append(' ').append(x.pick(40504)).toString();
    }

    void end() {
        System.out.println(asked + " answers, " + wrong + " not as due");
        if (wrong != 0) {
            System.exit(1);
        }
    }
}
