import java.io.IOException;
import java.nio.file.Files;
import java.nio.file.Path;
import java.util.ArrayList;
import java.util.List;
import java.util.Map;
import java.util.TreeMap;
import java.util.function.Supplier;
import java.util.regex.Matcher;
import java.util.regex.Pattern;

/**
 * What the tests of boundary cases share. Each of them is an edge: it names the promise and the
 * words of the document that it holds the class to; words that do not stand there are a fault of
 * the test, and words of the document that tell a boundary and that no edge names are one, too.
 */
final class Edges {
    static final int BAD = -1, STATE = -2, FULL = -3, NONE = -4;
    static final int LOW = Integer.MIN_VALUE, HIGH = Integer.MAX_VALUE;
    static final int PROMISES = 40;
    /** Words that tell of a boundary case, in the promises and in the terms. */
    static final Pattern BOUNDARY = Pattern.compile("\\d+ to \\d+|\\bBAD\\b|\\bSTATE\\b|\\bFULL\\b|\\bNONE\\b"
        + "|at most|at least|at first|above|below|more than|too long|too\\)|can not|bounds|already|the 6th|the 5th"
        + "|there is not|there was not|fewer than|more than as|no more|of several|of none|by none|nobody|nothing"
        + "|\\(down\\)|as long as may be|any number|every other|the first|NULL|INDEX|CAST|SIZE|-\\d+|refused"
        + "|modulo|lowest|whichever|in place of|are gone|stay|the end|or more|he HOLDS any|\\(6\\)|not from|if that");

    private static final Map<String, String> SECTIONS = new TreeMap<>();
    private static final Map<String, boolean[]> NAMED = new TreeMap<>();
    private static final int[] EDGES = new int[PROMISES + 1];
    private static int wrong;
    private static int asked;
    private static String edge;

    private Edges() {
    }

    interface Call {
        long on(HueLease x);
    }

    interface CallOf {
        long on(HueLease x, int v);
    }

    // ---- the document, and which of its words are named

    static void readDocument() throws IOException {
        for (String part : Files.readString(Path.of("../shared/DOC.md")).split("\n## ")) {
            int line = part.indexOf('\n');
            if (line > 0) {
                String words = oneLine(part.substring(line));
                SECTIONS.put(part.substring(0, line).trim(), words);
                NAMED.put(part.substring(0, line).trim(), new boolean[words.length()]);
            }
        }
    }

    private static String oneLine(String words) {
        return words.replaceAll("\\s+", " ");
    }

    static void edge(int promise, String sentence, Runnable test) {
        edge = "promise " + promise + ", \"" + sentence + "\"";
        EDGES[promise]++;
        if (!nameWords(promise, oneLine(sentence))) {
            fail("these words are not in the document");
        }
        int before = asked;
        try {
            test.run();
        } catch (RuntimeException e) {
            fail("threw " + e + " at " + e.getStackTrace()[0]);
        }
        if (asked == before) {
            fail("the test asks nothing");
        }
    }

    private static boolean nameWords(int promise, String sentence) {
        boolean found = false;
        for (String title : SECTIONS.keySet()) {
            String words = SECTIONS.get(title);
            boolean near = title.startsWith("Promise " + promise + ":") || title.equals("Terms")
                || title.equals("What it is");
            int at = near ? words.indexOf(sentence) : -1;
            for (; at >= 0; at = words.indexOf(sentence, at + 1)) {
                found = true;
                for (int i = at; i < at + sentence.length(); i++) {
                    NAMED.get(title)[i] = true;
                }
            }
        }
        return found;
    }

    /** How many answers are not as due, edges that lack among them. */
    static int end() {
        for (int promise = 1; promise <= PROMISES; promise++) {
            edge = "promise " + promise;
            if (EDGES[promise] == 0) {
                fail("has no edge");
            }
        }
        for (String title : SECTIONS.keySet()) {
            edge = title;
            if (title.startsWith("Promise") || title.equals("Terms")) {
                namesAllBoundaries(SECTIONS.get(title), NAMED.get(title));
            }
        }
        System.out.println(asked + " answers asked at the edges, " + wrong + " not as due");
        return wrong;
    }

    private static void namesAllBoundaries(String words, boolean[] named) {
        Matcher boundary = BOUNDARY.matcher(words);
        while (boundary.find()) {
            if (!named[boundary.start()]) {
                fail("no edge names \"" + words.substring(boundary.start(), Math.min(words.length(), boundary.end() + 40)) + "\"");
            }
        }
    }

    // ---- what is due

    private static void fail(String what) {
        wrong++;
        String where = StackWalker.getInstance().walk(s -> s
            .filter(f -> !f.getClassName().startsWith("Edges")).findFirst().map(Object::toString).orElse(""));
        System.out.println(edge + ": " + what + " " + where);
    }

    static void due(long want, long got) {
        asked++;
        if (got != want) {
            fail("answered " + got + ", due is " + want);
        }
    }

    /** The call is answered so, and all is as if it had not been made: it was refused, or only asks. */
    static void leavesAll(long want, Supplier<HueLease> world, Call call) {
        HueLease x = world.get();
        due(want, call.on(x));
        HueLease untouched = world.get();
        due(untouched.fault(), x.fault());
        List<Long> is = picture(x);
        List<Long> was = picture(untouched);
        asked++;
        if (!is.equals(was)) {
            fail("changed something: " + was + " became " + is);
        }
    }

    /** Numbers outside of these bounds are BAD and change nothing; those at the bounds are not BAD. */
    static void bounds(int least, int most, Supplier<HueLease> world, CallOf call) {
        int[] outside = {least - 1, most + 1, least - 2, most + 2, least - 256, most + 256, least - 65536, most + 65536,
            LOW, LOW + 1, LOW + least, LOW + most, HIGH, HIGH - 1};
        for (int v : outside) {
            leavesAll(BAD, world, x -> call.on(x, v));
        }
        notBad(call.on(world.get(), least));
        notBad(call.on(world.get(), most));
    }

    static void notBad(long got) {
        asked++;
        if (got == BAD) {
            fail("answered BAD");
        }
    }

    // ---- worlds

    static HueLease tell(HueLease x, String text) {
        for (int i = 0; i < text.length(); i++) {
            x.feed(text.charAt(i));
        }
        return x;
    }

    static HueLease of(String text) {
        HueLease x = tell(new HueLease(), text);
        if (x.text() < 0) {
            throw new IllegalStateException(text);
        }
        return x;
    }

    static final String FOUR = "plain 9 1 0 30;lasting 0 7 8 9;royal 6 0 9 4;fugitive 9 9 9 50;"
        + "one 60 20;one 15 9;lent 0 0 8;lent 0 2 2;lent 1 3 9;lent 1 1 3;";

    /** A world in which there is some of everything: days, a seizure, an image, looks, sheets, faults, a tape. */
    static HueLease busy() {
        HueLease x = of(FOUR);
        x.keep(1);
        x.days(3);
        x.see(1, 0, 803);
        x.see(0, 1, 78);
        layAll(x, 0, 1, 1, 0, 3, 0, 1, 2, 5);
        layAll(x, 2, 0, 0, 3, 1);
        x.read(1, 1, 0, 1);
        x.feed('?');
        x.text();
        return tell(x, "one 7 8;pl");
    }

    /** A new sheet with these cells. */
    static HueLease layAll(HueLease x, int k, int lane, int... cells) {
        x.sheet(k, lane, cells.length);
        for (int i = 0; i < cells.length; i++) {
            x.lay(k, i, cells[i]);
        }
        return x;
    }

    /** Five colours, four people, of everything as much as there may be. */
    static HueLease fullest() {
        HueLease x = of("royal9 9 9 99;".repeat(5) + "one99 99;".repeat(4));
        for (int p = 0; p < 4; p++) {
            for (int c = 0; c < 5; c++) {
                x.lend(p, c, 99);
                x.alter(c, 4, 99);
            }
            x.pay(p, 0, 999);
        }
        return x;
    }

    /** All that can be asked of an object but its fault(); it is not worth much behind that. */
    static List<Long> picture(HueLease x) {
        List<Long> all = new ArrayList<>();
        all.add((long) x.torn());
        addBooks(x, all);
        for (int what = 0; what <= 5; what++) {
            all.add((long) x.count(what));
        }
        for (int c = 0; c < 5; c++) {
            all.add((long) x.kinds(c));
            all.add((long) x.drops(0, c));
        }
        addSheets(x, all);
        for (int n = x.count(0); n >= 0; n--) {
            all.add((long) x.forget(n));
            all.add((long) x.kinds(0));
            all.add((long) x.kinds(1));
        }
        for (int k = 0; k < 2; k++) {
            all.add((long) x.back(k));
            addHeld(x, all);
        }
        all.add((long) x.text());
        all.add((long) x.one(0, 0));
        all.add((long) x.one(0, 1));
        return all;
    }

    private static void addBooks(HueLease x, List<Long> all) {
        addHeld(x, all);
        for (int c = 0; c < 5; c++) {
            for (int what = 0; what <= 6; what++) {
                all.add((long) x.colour(c, what));
            }
        }
        for (int p = 0; p < 4; p++) {
            for (int what = 0; what <= 4; what++) {
                all.add((long) x.one(p, what));
            }
        }
    }

    private static void addHeld(HueLease x, List<Long> all) {
        for (int what = 0; what <= 5; what++) {
            all.add((long) x.rule(what));
        }
        for (int p = 0; p < 4; p++) {
            for (int c = 0; c < 5; c++) {
                all.add((long) x.holds(p, c));
            }
        }
    }

    private static void addSheets(HueLease x, List<Long> all) {
        for (int k = 0; k < 4; k++) {
            for (int lane = 0; lane < 3; lane++) {
                all.add((long) x.read(k, lane, 0, 13));
                all.add((long) x.torn());
            }
        }
        addHeld(x, all);
    }
}
