import java.math.BigInteger;
import java.util.ArrayDeque;
import java.util.ArrayList;
import java.util.Deque;
import java.util.HashMap;
import java.util.HashSet;
import java.util.List;
import java.util.Map;
import java.util.Random;
import java.util.Set;
import java.util.regex.Matcher;
import java.util.regex.Pattern;

/**
 * Long random runs of calls, each answer held against a second program that was
 * written from the document alone, in another way: it goes through all cases,
 * keeps its sheets in real rows and lets the machine find their faults.
 */
public final class ModelTest {
    static final int RUNS = 2000;
    static final int CALLS = 512;

    public static void main(String[] args) {
        int runs = args.length > 0 ? Integer.parseInt(args[0]) : RUNS;
        long first = args.length > 1 ? Long.parseLong(args[1]) : 1;
        int wrong = 0;
        Map<String, Set<Long>> answers = new HashMap<>();
        for (long seed = first; seed < first + runs && wrong < 5; seed++) {
            wrong += run(seed, answers);
        }
        wrong += tooFewAnswers(answers);
        System.out.println(wrong == 0 ? "all answers are as the model's" : wrong + " runs are not as the model's");
        if (wrong != 0) {
            System.exit(1);
        }
    }

    /** Answers that the runs must have come upon: what no run answers was not tested. */
    static final Map<String, List<Long>> WANTED = Map.ofEntries(
        Map.entry("feed", List.of(-1L, -3L, 1L, 160L)), Map.entry("end", List.of(-1L, 0L, 1L)),
        Map.entry("text", List.of(-10L, 0L, 3L, 10L)), Map.entry("fault", List.of(0L, 1L, 2L, 3L, 4L, 5L, 6L)),
        Map.entry("rule", List.of(-1L, 0L, 5L, 30L)), Map.entry("colour", List.of(-1L, 6L, 99L)),
        Map.entry("one", List.of(-1L, 999L)), Map.entry("holds", List.of(-1L, 0L, 7L)),
        Map.entry("off", List.of(-1L, 0L, 20L)), Map.entry("alter", List.of(-1L, 0L, 50L)),
        Map.entry("pay", List.of(-1L, 0L, 999L)), Map.entry("lend", List.of(-1L, -2L, 1L, 9L)),
        Map.entry("bring", List.of(-1L, -2L, 0L, 4L)), Map.entry("days", List.of(-1L, 0L, 1L, 3L)),
        Map.entry("runs", List.of(-1L, -4L, 0L, 2L, 40L)), Map.entry("ahead", List.of(-1L, 0L, 999L)),
        Map.entry("lasts", List.of(-1L, -4L, 0L, 1L, 5L)), Map.entry("mix", List.of(-1L, -4L, 0L, 1L, 6L)),
        Map.entry("cheap", List.of(-1L, -4L, 1L, 12L)), Map.entry("more", List.of(-1L, 0L, 1L, 20L)),
        Map.entry("swap", List.of(-1L, -4L, 1L, 2L, 12L, 13L, 23L)), Map.entry("shed", List.of(-1L, -4L, 0L, 1L, 2L, 20L)),
        Map.entry("need", List.of(-1L, -4L, 0L, 1L, 30L)), Map.entry("kind", List.of(-1L, 0L, 1L, 2L, 3L, 40L)),
        Map.entry("luck", List.of(-1L, 0L, 1L, 9L, 10L, 100000000L)), Map.entry("mean", List.of(-1L, 0L, 1L, 10L, 100000000L)),
        Map.entry("see", List.of(-1L, -3L, 1L, 6L)), Map.entry("forget", List.of(-1L, 0L, 6L)),
        Map.entry("kinds", List.of(-1L, 0L, 1L, 2L, 4L, 6L, 8L, 15L)), Map.entry("drops", List.of(-1L, 0L, 1L, 2147483647L)),
        Map.entry("ask", List.of(-1L, -4L, 1L, 2L, 3L, 10L, 11L, 20L)), Map.entry("drift", List.of(-1L, -2L, 0L, 5L, 30L)),
        Map.entry("keep", List.of(-1L, 0L, 1L)), Map.entry("back", List.of(-1L, -2L, 0L, 1L)),
        Map.entry("sheet", List.of(-1L, -14L, 1L)), Map.entry("lay", List.of(-1L, -11L, -12L, 1L)),
        Map.entry("read", List.of(-1L, -20L, -21L, -22L, 0L, 1L, 2L, 3L)), Map.entry("torn", List.of(0L, 1L, 2L, 3L)),
        Map.entry("count", List.of(-1L, -4L, 0L, 2L, 40L)));

    static int tooFewAnswers(Map<String, Set<Long>> answers) {
        int few = 0;
        for (String name : Caller.NAMES) {
            Set<Long> seen = answers.getOrDefault(name, Set.of());
            if (!seen.containsAll(WANTED.get(name))) {
                System.out.println(name + " never answered all of " + WANTED.get(name));
                few++;
            }
        }
        return few;
    }

    static int run(long seed, Map<String, Set<Long>> answers) {
        Caller caller = new Caller(seed);
        HueLease x = new HueLease();
        Model m = new Model();
        StringBuilder told = new StringBuilder();
        for (int i = 0; i < CALLS; i++) {
            caller.choose(m);
            long got = caller.callProgram(x);
            long due = caller.callModel(m);
            answers.computeIfAbsent(caller.name, k -> new HashSet<>()).add(due);
            told.append(caller.told()).append(" = ").append(due).append('\n');
            if (got != due) {
                System.out.println(told);
                System.out.println("seed " + seed + ", call " + i + ": " + caller.told() + " answered " + got + ", due is " + due);
                return 1;
            }
        }
        return 0;
    }

    record Call(String name, int... numbers) { }

    /** Chooses calls; some wait in a row, as the letters of a text do. */
    static final class Caller {
        static final String[] NAMES = {"feed", "end", "text", "fault", "rule", "colour", "one", "holds", "off",
            "alter", "pay", "lend", "bring", "days", "runs", "ahead", "lasts", "mix", "cheap", "more", "swap",
            "shed", "need", "kind", "luck", "mean", "see", "forget", "kinds", "drops", "ask", "drift", "keep",
            "back", "sheet", "lay", "read", "torn", "count"};
        final Random random;
        String name;
        int[] a = new int[5];
        final Deque<Call> waiting = new ArrayDeque<>();

        Caller(long seed) {
            random = new Random(seed);
            feedNewText();
        }

        String told() {
            return name + "(" + a[0] + ", " + a[1] + ", " + a[2] + ", " + a[3] + ", " + a[4] + ")";
        }

        int pick(int least, int most) {
            int r = random.nextInt(60);
            if (r == 0) {
                return least - 1;
            }
            if (r == 1) {
                return most + 1;
            }
            if (r == 2) {
                return random.nextInt();
            }
            if (r == 3) {
                return random.nextBoolean() ? Integer.MAX_VALUE : Integer.MIN_VALUE;
            }
            if (r == 4) {
                return least;
            }
            if (r == 5) {
                return most;
            }
            return least + random.nextInt(Math.max(1, most - least + 1));
        }

        int small(int most) {
            return random.nextInt(3) == 0 ? random.nextInt(most + 1) : random.nextInt(Math.min(most, 12) + 1);
        }

        void choose(Model m) {
            if (!waiting.isEmpty()) {
                Call call = waiting.remove();
                name = call.name;
                a = call.numbers;
                return;
            }
            if ("text".equals(name) && random.nextBoolean()) {
                name = "fault";
                return;
            }
            if (m.tape.length() > 0 && random.nextInt(8) != 0) {
                name = "text";
                set(0, 0, 0, 0, 0);
                return;
            }
            if (m.w.folk.isEmpty() && random.nextInt(6) == 0 || random.nextInt(150) == 0) {
                feedNewText();
            }
            if (random.nextInt(60) == 0) {
                fillNewSheet(m);
            }
            String[] often = {"lay", "lend", "lend", "pay"};
            name = random.nextInt(4) == 0 ? often[random.nextInt(4)] : NAMES[random.nextInt(NAMES.length)];
            if (name.equals("text") && random.nextInt(4) != 0) {
                name = "read";
            }
            if (name.equals("days") && random.nextInt(3) != 0) {
                name = "sheet";
            }
            chooseNumbers(m);
        }

        void wait(String name, int a0, int a1, int a2, int a3) {
            waiting.add(new Call(name, a0, a1, a2, a3, 0));
        }

        void feedNewText() {
            String text = newText();
            for (int i = 0; i < text.length(); i++) {
                wait("feed", text.charAt(i), 0, 0, 0);
            }
        }

        /** Loans most of which can come, read from here and there. */
        void fillNewSheet(Model m) {
            int k = random.nextInt(4);
            int lane = random.nextInt(3);
            int size = random.nextInt(3) == 0 ? random.nextInt(41) : random.nextInt(13);
            wait("sheet", k, lane, size, 0);
            for (int i = 0; i < size; i++) {
                int fit = i % 3 == 0 ? m.w.folk.size() : i % 3 == 1 ? m.w.cols.size() : 3;
                int v = random.nextInt(Math.max(1, fit)) + i % 3 / 2;
                wait("lay", k, i, random.nextInt(20) == 0 ? random.nextInt() : v + (random.nextInt(9) == 0 ? 65536 : 0), 0);
            }
            for (int i = 0; i < 3; i++) {
                wait("read", k, lane, random.nextInt(4) == 0 ? random.nextInt(40) : 3 * i, random.nextInt(2 + size / 3));
                wait("torn", 0, 0, 0, 0);
                wait("rule", 4 + random.nextInt(2), 0, 0, 0);
            }
        }

        String newText() {
            StringBuilder b = new StringBuilder();
            int colours = random.nextInt(15) == 0 ? 6 : 1 + random.nextInt(5);
            int people = random.nextInt(15) == 0 ? 5 : 1 + random.nextInt(4);
            String[] kinds = {"plain", "lasting", "royal", "fugitive"};
            List<String> lines = new ArrayList<>();
            for (int i = 0; i < colours; i++) {
                lines.add(kinds[random.nextInt(4)] + blank() + random.nextInt(10) + " " + random.nextInt(10) + " "
                    + random.nextInt(10) + " " + small(99) + ";");
            }
            for (int i = 0; i < people; i++) {
                lines.add("one" + blank() + random.nextInt(100) + " " + random.nextInt(100) + ";");
            }
            Set<Integer> pairs = new HashSet<>();
            for (int i = random.nextInt(7); i > 0; i--) {
                int p = random.nextInt(random.nextInt(20) == 0 ? 4 : people);
                int c = random.nextInt(random.nextInt(20) == 0 ? 5 : colours);
                if (pairs.add(5 * p + c) || random.nextInt(20) == 0) {
                    lines.add("lent" + blank() + p + " " + c + " " + small(99) + ";");
                }
            }
            for (int i = random.nextInt(4); i > 0; i--) {
                lines.add(random.nextInt(lines.size()), lines.remove(random.nextInt(lines.size())));
            }
            for (String line : lines) {
                b.append(blank()).append(line);
            }
            for (int i = random.nextInt(6) == 0 ? 1 + random.nextInt(2) : 0; i > 0; i--) {
                spoil(b);
            }
            return b.length() > 170 ? b.substring(0, 170) : b.toString();
        }

        String blank() {
            return random.nextInt(4) == 0 ? " " : "";
        }

        void spoil(StringBuilder b) {
            String signs = "abn019;; \t{`/:~AZ";
            int at = random.nextInt(b.length());
            char sign = signs.charAt(random.nextInt(signs.length()));
            int how = random.nextInt(3);
            if (how == 0) {
                b.setCharAt(at, sign);
            } else if (how == 1) {
                b.insert(at, sign);
            } else {
                b.deleteCharAt(at);
            }
        }

        void chooseNumbers(Model m) {
            int p = pick(0, m.w.folk.size() - 1);
            int c = pick(0, m.w.cols.size() - 1);
            int h = random.nextInt(3) == 0 || m.w.folk.isEmpty() ? pick(0, 999) : m.w.hue(random.nextInt(m.w.folk.size()));
            switch (name) {
                case "feed": set(pick(0, 127), 0, 0, 0, 0); break;
                case "end": set(pick(0, m.tape.length()), 0, 0, 0, 0); break;
                case "rule": set(pick(0, 5), 0, 0, 0, 0); break;
                case "colour": set(c, pick(0, 6), 0, 0, 0); break;
                case "one": set(p, pick(0, 4), 0, 0, 0); break;
                case "holds": case "more": case "drops": set(p, c, 0, 0, 0); break;
                case "off": set(p, h, 0, 0, 0); break;
                case "alter": int w = pick(0, 4); set(c, w, pick(0, w == 0 ? 3 : w == 4 ? 99 : 9), 0, 0); break;
                case "pay": int u = pick(0, 1); set(p, u, pick(0, u == 1 ? 99 : random.nextBoolean() ? 999 : 50), 0, 0); break;
                case "lend": case "bring": set(p, c, random.nextInt(3) == 0 ? pick(1, 99) : pick(1, 9), 0, 0); break;
                case "days": set(random.nextInt(3) == 0 ? pick(0, 30) : pick(0, 2), 0, 0, 0, 0); break;
                case "runs": set(pick(0, 60), pick(0, 3), 0, 0, 0); break;
                case "ahead": set(p, pick(0, 60), pick(0, 2), 0, 0); break;
                case "lasts": set(p, 0, 0, 0, 0); break;
                case "mix": set(h, pick(1, 6), pick(0, m.w.cols.size()), 0, 0); break;
                case "cheap": set(h, pick(0, 27), pick(1, 6), 0, 0); break;
                case "swap": set(pick(0, 1), 0, 0, 0, 0); break;
                case "shed": set(p, pick(0, 1), 0, 0, 0); break;
                case "need": set(p, pick(0, 60), 0, 0, 0); break;
                case "kind": set(c, pick(0, 60), pick(0, 1), 0, 0); break;
                case "luck": set(pick(0, 10), p, pick(0, 8), luckyHue(m, h), pick(0, 1)); break;
                case "mean": set(pick(0, 10), pick(0, 8), pick(0, 1), 0, 0); break;
                case "see": chooseLook(m, p, h); break;
                case "forget": set(pick(0, m.seen.size()), 0, 0, 0, 0); break;
                case "kinds": set(c, 0, 0, 0, 0); break;
                case "ask": set(c, pick(0, 1), 0, 0, 0); break;
                case "drift": set(random.nextInt(), pick(1, 60), pick(0, 1), 0, 0); break;
                case "keep": case "back": set(pick(0, 1), 0, 0, 0, 0); break;
                case "sheet": set(pick(0, 1 + 2 * random.nextInt(2)), pick(0, 2), random.nextInt(9) == 0 ? -random.nextInt(9) : pick(0, 40), 0, 0); break;
                case "lay": chooseCell(m); break;
                case "read": chooseReading(m); break;
                case "count": set(pick(0, 5), 0, 0, 0, 0); break;
                default: set(0, 0, 0, 0, 0);
            }
        }

        /** Most looks are true of a world that might be, so that some kinds and drops are left. */
        void chooseLook(Model m, int p, int h) {
            int n = pick(0, 20);
            boolean can = p >= 0 && p < m.w.folk.size() && n >= 0 && n <= 20;
            if (can && random.nextInt(5) != 0) {
                World w = m.w.copy();
                if (!w.cols.isEmpty() && random.nextInt(4) == 0) {
                    w.cols.get(random.nextInt(w.cols.size()))[0] = random.nextInt(4);
                }
                w.run(n);
                set(n, p, w.hue(p), 0, 0);
            } else {
                set(n, p, h, 0, 0);
            }
        }

        /** Most cells are such that a loan may come of them. */
        void chooseCell(Model m) {
            int i = pick(0, random.nextInt(3) == 0 ? 40 : 11);
            int[] fit = {m.w.folk.size(), m.w.cols.size(), 4};
            int v = i >= 0 && random.nextInt(12) != 0 ? random.nextInt(Math.max(1, fit[i % 3])) + (i % 3 == 2 ? 1 : 0) : random.nextInt();
            set(pick(0, 1 + 2 * random.nextInt(2)), i, random.nextInt(8) == 0 ? v : v + 65536 * random.nextInt(2), 0, 0);
        }

        void chooseReading(Model m) {
            int k = pick(0, 1 + 2 * random.nextInt(2));
            int lane = pick(0, 2);
            if (k >= 0 && k < 4 && random.nextInt(3) != 0) {
                lane = m.sheets[k] instanceof byte[] ? 0 : m.sheets[k] instanceof short[] ? 1 : 2;
            }
            set(k, lane, random.nextInt(4) == 0 ? pick(0, 40) : 3 * random.nextInt(3), pick(0, random.nextBoolean() ? 3 : 13), 0);
        }

        int luckyHue(Model m, int h) {
            if (m.w.folk.isEmpty() || random.nextInt(4) == 0) {
                return h;
            }
            World w = m.w.copy();
            for (int i = random.nextInt(8); i > 0; i--) {
                w.day(1 + random.nextInt(2));
            }
            return w.hue(random.nextInt(m.w.folk.size()));
        }

        void set(int a0, int a1, int a2, int a3, int a4) {
            a = new int[] {a0, a1, a2, a3, a4};
        }

        long callProgram(HueLease x) {
            switch (name) {
                case "feed": return x.feed(a[0]);
                case "end": return x.end(a[0]);
                case "text": return x.text();
                case "fault": return x.fault();
                case "rule": return x.rule(a[0]);
                case "colour": return x.colour(a[0], a[1]);
                case "one": return x.one(a[0], a[1]);
                case "holds": return x.holds(a[0], a[1]);
                case "off": return x.off(a[0], a[1]);
                case "alter": return x.alter(a[0], a[1], a[2]);
                case "pay": return x.pay(a[0], a[1], a[2]);
                case "lend": return x.lend(a[0], a[1], a[2]);
                case "bring": return x.bring(a[0], a[1], a[2]);
                case "days": return x.days(a[0]);
                case "runs": return x.runs(a[0], a[1]);
                case "ahead": return x.ahead(a[0], a[1], a[2]);
                case "lasts": return x.lasts(a[0]);
                case "mix": return x.mix(a[0], a[1], a[2]);
                case "cheap": return x.cheap(a[0], a[1], a[2]);
                case "more": return x.more(a[0], a[1]);
                case "swap": return x.swap(a[0]);
                case "shed": return x.shed(a[0], a[1]);
                case "need": return x.need(a[0], a[1]);
                case "kind": return x.kind(a[0], a[1], a[2]);
                case "luck": return x.luck(a[0], a[1], a[2], a[3], a[4]);
                case "mean": return x.mean(a[0], a[1], a[2]);
                case "see": return x.see(a[0], a[1], a[2]);
                case "forget": return x.forget(a[0]);
                case "kinds": return x.kinds(a[0]);
                case "drops": return x.drops(a[0], a[1]);
                case "ask": return x.ask(a[0], a[1]);
                case "drift": return x.drift(a[0], a[1], a[2]);
                case "keep": return x.keep(a[0]);
                case "back": return x.back(a[0]);
                case "sheet": return x.sheet(a[0], a[1], a[2]);
                case "lay": return x.lay(a[0], a[1], a[2]);
                case "read": return x.read(a[0], a[1], a[2], a[3]);
                case "torn": return x.torn();
                case "count": return x.count(a[0]);
                default: throw new IllegalStateException(name);
            }
        }

        long callModel(Model m) {
            switch (name) {
                case "feed": return m.feed(a[0]);
                case "end": return m.end(a[0]);
                case "text": return m.text();
                case "fault": return m.fault;
                case "rule": return m.rule(a[0]);
                case "colour": return m.colour(a[0], a[1]);
                case "one": return m.one(a[0], a[1]);
                case "holds": return !m.isOne(a[0]) || !m.isColour(a[1]) ? -1 : m.w.folk.get(a[0])[2 + a[1]];
                case "off": return !m.isOne(a[0]) || a[1] < 0 || a[1] > 999 ? -1 : World.off(m.w.hue(a[0]), a[1]);
                case "alter": return m.alter(a[0], a[1], a[2]);
                case "pay": return m.pay(a[0], a[1], a[2]);
                case "lend": return m.w.lend(a[0], a[1], a[2]);
                case "bring": return m.w.bring(a[0], a[1], a[2]);
                case "days": return m.days(a[0]);
                case "runs": return m.runs(a[0], a[1]);
                case "ahead": return m.ahead(a[0], a[1], a[2]);
                case "lasts": return m.lasts(a[0]);
                case "mix": return m.mix(a[0], a[1], a[2]);
                case "cheap": return m.cheap(a[0], a[1], a[2]);
                case "more": return m.more(a[0], a[1]);
                case "swap": return m.swap(a[0]);
                case "shed": return m.shed(a[0], a[1]);
                case "need": return m.need(a[0], a[1]);
                case "kind": return m.kind(a[0], a[1], a[2]);
                case "luck": return m.luck(a[0], a[1], a[2], a[3], a[4]);
                case "mean": return m.mean(a[0], a[1], a[2]);
                case "see": return m.see(a[0], a[1], a[2]);
                case "forget": return m.forget(a[0]);
                case "kinds": return m.isColour(a[0]) ? m.kindsLeft(a[0], m.seen) : -1;
                case "drops": return m.drops(a[0], a[1]);
                case "ask": return m.ask(a[0], a[1]);
                case "drift": return m.drift(a[0], a[1], a[2]);
                case "keep": return m.keep(a[0]);
                case "back": return m.back(a[0]);
                case "sheet": return m.sheet(a[0], a[1], a[2]);
                case "lay": return m.lay(a[0], a[1], a[2]);
                case "read": return m.read(a[0], a[1], a[2], a[3]);
                case "torn": return m.torn;
                case "count": return m.count(a[0]);
                default: throw new IllegalStateException(name);
            }
        }
    }

    /** A colour is kind, three lights, vat; a one is purse, earns, and five holdings. */
    static final class World {
        List<int[]> cols = new ArrayList<>();
        List<int[]> folk = new ArrayList<>();
        int day;
        int seizures;
        int paid;
        int[] seizuresOf = new int[4];

        World copy() {
            World w = new World();
            cols.forEach(c -> w.cols.add(c.clone()));
            folk.forEach(p -> w.folk.add(p.clone()));
            w.day = day;
            w.seizures = seizures;
            return w;
        }

        static int rent(int kind) {
            return switch (kind) {
                case 0 -> 2;
                case 1 -> rent(0) + 1;
                case 2 -> 2 * rent(1);
                default -> rent(0) / 2;
            };
        }

        static int fade(int kind) {
            return switch (kind) {
                case 0 -> 1;
                case 1 -> 0;
                case 2 -> fade(1);
                default -> 3 * fade(0);
            };
        }

        static int off(int g, int h) {
            String a = String.format("%03d", g);
            String b = String.format("%03d", h);
            int sum = 0;
            for (int i = 0; i < 3; i++) {
                sum += Math.abs(a.charAt(i) - b.charAt(i));
            }
            return sum;
        }

        int hueOf(int... drops) {
            int n = 0;
            int[] l = new int[3];
            for (int c = 0; c < cols.size(); c++) {
                n += drops[c];
                for (int i = 0; i < 3; i++) {
                    l[i] += drops[c] * cols.get(c)[1 + i];
                }
            }
            return n == 0 ? 0 : l[0] / n * 100 + l[1] / n * 10 + l[2] / n;
        }

        int[] drops(int p) {
            return java.util.Arrays.copyOfRange(folk.get(p), 2, 7);
        }

        int hue(int p) {
            return hueOf(drops(p));
        }

        int held(int p) {
            return java.util.Arrays.stream(drops(p)).sum();
        }

        int heldByAll() {
            int n = 0;
            for (int p = 0; p < folk.size(); p++) {
                n += held(p);
            }
            return n;
        }

        World run(int n) {
            for (int i = 0; i < n; i++) {
                day(1);
            }
            return this;
        }

        void day(int sun) {
            for (int p = 0; p < folk.size(); p++) {
                int[] one = folk.get(p);
                one[0] += one[1];
                if (one[0] > 999) {
                    one[0] = 999;
                }
                for (int c = 0; c < cols.size(); c++) {
                    int[] col = cols.get(c);
                    if (one[2 + c] == 0) {
                        continue;
                    }
                    int due = one[2 + c] * rent(col[0]);
                    if (due > one[0]) {
                        seizures++;
                        seizuresOf[p]++;
                        col[4] += one[2 + c];
                        if (col[4] > 99) {
                            col[4] = 99;
                        }
                        one[2 + c] = 0;
                    } else {
                        one[0] -= due;
                        paid += due;
                        one[2 + c] -= Math.min(one[2 + c], sun * fade(col[0]));
                    }
                }
            }
            day++;
        }

        int lend(int p, int c, int n) {
            if (p < 0 || p >= folk.size() || c < 0 || c >= cols.size() || n < 1 || n > 99) {
                return -1;
            }
            if (cols.get(c)[4] < n || folk.get(p)[2 + c] + n > 99) {
                return -2;
            }
            cols.get(c)[4] -= n;
            return folk.get(p)[2 + c] += n;
        }

        int bring(int p, int c, int n) {
            if (p < 0 || p >= folk.size() || c < 0 || c >= cols.size() || n < 1 || n > 99) {
                return -1;
            }
            if (folk.get(p)[2 + c] < n) {
                return -2;
            }
            cols.get(c)[4] = Math.min(99, cols.get(c)[4] + n);
            return folk.get(p)[2 + c] -= n;
        }
    }

    static final class Model {
        World w = new World();
        StringBuilder tape = new StringBuilder();
        int fault;
        List<int[]> seen = new ArrayList<>();
        World[] images = new World[2];
        Object[] sheets = new Object[4];
        int torn;

        boolean isOne(int p) {
            return p >= 0 && p < w.folk.size();
        }

        boolean isColour(int c) {
            return c >= 0 && c < w.cols.size();
        }

        static boolean in(int v, int a, int b) {
            return a <= v && v <= b;
        }

        int feed(int c) {
            if (!in(c, 0, 127)) {
                return -1;
            }
            if (tape.length() == 160) {
                return -3;
            }
            return tape.append((char) c).length();
        }

        int end(int n) {
            int had = tape.length();
            if (!in(n, 0, had)) {
                return -1;
            }
            tape.setLength(n);
            return had;
        }

        static final class Refused extends RuntimeException {
            static final long serialVersionUID = 1;
            final int fault;
            final int place;

            Refused(int fault, int place) {
                this.fault = fault;
                this.place = place;
            }
        }

        int text() {
            String s = tape.toString();
            tape.setLength(0);
            try {
                World told = new World();
                int lines = parse(s, told);
                w = told;
                seen.clear();
                images = new World[2];
                fault = 0;
                return lines;
            } catch (Refused r) {
                fault = r.fault;
                return -10 - r.place;
            }
        }

        static final Pattern TOKEN = Pattern.compile(" *([a-z]+|[0-9]+|;)");

        static int parse(String s, World told) {
            Matcher m = TOKEN.matcher(s);
            int at = 0;
            int lines = 0;
            List<String> shape = List.of();
            List<Integer> got = new ArrayList<>();
            String name = "";
            Map<List<Integer>, Integer> lent = new HashMap<>();
            while (true) {
                if (s.substring(at).isBlank() && s.substring(at).replace(" ", "").isEmpty()) {
                    if (!shape.isEmpty()) {
                        throw new Refused(2, s.length());
                    }
                    break;
                }
                if (!m.region(at, s.length()).lookingAt()) {
                    int bad = at;
                    while (s.charAt(bad) == ' ') {
                        bad++;
                    }
                    throw new Refused(1, bad);
                }
                String token = m.group(1);
                int start = m.start(1);
                at = m.end();
                if (token.matches("[0-9]{3,}")) {
                    throw new Refused(1, start);
                }
                if (shape.isEmpty()) {
                    name = token;
                    got = new ArrayList<>();
                    shape = switch (token) {
                        case "plain", "lasting", "royal", "fugitive" -> List.of("9", "9", "9", "99", ";");
                        case "one" -> List.of("99", "99", ";");
                        case "lent" -> List.of("3", "4", "99", ";");
                        default -> throw new Refused(2, start);
                    };
                    if (shape.size() == 5 && told.cols.size() == 5 || shape.size() == 3 && told.folk.size() == 4) {
                        throw new Refused(5, start);
                    }
                    continue;
                }
                String wanted = shape.get(0);
                shape = shape.subList(1, shape.size());
                if (wanted.equals(";")) {
                    if (!token.equals(";")) {
                        throw new Refused(2, start);
                    }
                    lines++;
                    tell(name, got, told, lent);
                    continue;
                }
                if (!Character.isDigit(token.charAt(0))) {
                    throw new Refused(2, start);
                }
                int v = Integer.parseInt(token);
                if (v > Integer.parseInt(wanted)) {
                    throw new Refused(3, start);
                }
                got.add(v);
                if (name.equals("lent") && got.size() == 2 && lent.containsKey(got)) {
                    throw new Refused(4, start);
                }
            }
            lent.forEach((who, n) -> {
                if (who.get(0) >= told.folk.size() || who.get(1) >= told.cols.size()) {
                    throw new Refused(6, s.length());
                }
                told.folk.get(who.get(0))[2 + who.get(1)] = n;
            });
            return lines;
        }

        static void tell(String name, List<Integer> got, World told, Map<List<Integer>, Integer> lent) {
            if (name.equals("one")) {
                told.folk.add(new int[] {got.get(0), got.get(1), 0, 0, 0, 0, 0});
            } else if (name.equals("lent")) {
                lent.put(List.of(got.get(0), got.get(1)), got.get(2));
            } else {
                int kind = List.of("plain", "lasting", "royal", "fugitive").indexOf(name);
                told.cols.add(new int[] {kind, got.get(0), got.get(1), got.get(2), got.get(3)});
            }
        }

        int rule(int what) {
            return switch (what) {
                case 0 -> w.cols.size();
                case 1 -> w.folk.size();
                case 2 -> w.day;
                case 3 -> w.seizures;
                case 4 -> w.cols.stream().mapToInt(c -> c[4]).sum();
                case 5 -> w.heldByAll();
                default -> -1;
            };
        }

        int colour(int c, int what) {
            if (!isColour(c) || !in(what, 0, 6)) {
                return -1;
            }
            int[] col = w.cols.get(c);
            return what < 5 ? col[what] : what == 5 ? World.rent(col[0]) : w.folk.stream().mapToInt(p -> p[2 + c]).sum();
        }

        int one(int p, int what) {
            if (!isOne(p) || !in(what, 0, 4)) {
                return -1;
            }
            int[] one = w.folk.get(p);
            return switch (what) {
                case 2 -> w.hue(p);
                case 3 -> w.held(p);
                case 4 -> rentOf(w.drops(p));
                default -> one[what];
            };
        }

        int rentOf(int[] drops) {
            int sum = 0;
            for (int c = 0; c < w.cols.size(); c++) {
                sum += drops[c] * World.rent(w.cols.get(c)[0]);
            }
            return sum;
        }

        int alter(int c, int what, int v) {
            if (!isColour(c) || !in(what, 0, 4) || !in(v, 0, new int[] {3, 9, 9, 9, 99}[what])) {
                return -1;
            }
            int was = w.cols.get(c)[what];
            w.cols.get(c)[what] = v;
            return was;
        }

        int pay(int p, int what, int v) {
            if (!isOne(p) || !in(what, 0, 1) || !in(v, 0, what == 0 ? 999 : 99)) {
                return -1;
            }
            int was = w.folk.get(p)[what];
            w.folk.get(p)[what] = v;
            return was;
        }

        int days(int n) {
            if (!in(n, 0, 30)) {
                return -1;
            }
            if (w.day + n >= 1000) {
                return -3;
            }
            int before = w.seizures;
            w.run(n);
            return w.seizures - before;
        }

        int runs(int n, int what) {
            if (!in(n, 0, 60) || !in(what, 0, 3)) {
                return -1;
            }
            if (what == 3) {
                for (int i = 1; i <= n; i++) {
                    if (w.copy().run(i).seizures != w.seizures) {
                        return i;
                    }
                }
                return -4;
            }
            World v = w.copy().run(n);
            return what == 0 ? v.heldByAll() : what == 1 ? v.seizures - w.seizures : v.paid;
        }

        int ahead(int p, int n, int what) {
            if (!isOne(p) || !in(n, 0, 60) || !in(what, 0, 2)) {
                return -1;
            }
            World v = w.copy().run(n);
            return what == 0 ? v.hue(p) : what == 1 ? v.folk.get(p)[0] : v.held(p);
        }

        int lasts(int p) {
            if (!isOne(p)) {
                return -1;
            }
            for (int n = 0; n <= 60; n++) {
                if (w.copy().run(n).held(p) == 0) {
                    return n;
                }
            }
            return -4;
        }

        /** All ways to take n drops from the vats, in the order of how few of each colour. */
        List<int[]> ways(int n) {
            List<int[]> all = new ArrayList<>();
            for (int code = 0; code < 7 * 7 * 7 * 7 * 7; code++) {
                int[] way = {code / 2401, code / 343 % 7, code / 49 % 7, code / 7 % 7, code % 7};
                boolean can = java.util.Arrays.stream(way).sum() == n;
                for (int c = 0; c < 5; c++) {
                    can &= way[c] <= (c < w.cols.size() ? w.cols.get(c)[4] : 0);
                }
                if (can) {
                    all.add(way);
                }
            }
            return all;
        }

        int mix(int h, int n, int what) {
            if (!in(h, 0, 999) || !in(n, 1, 6) || what != 0 && !isColour(what - 1)) {
                return -1;
            }
            int least = 99;
            int[] best = null;
            for (int[] way : ways(n)) {
                int off = World.off(w.hueOf(way), h);
                if (off < least) {
                    least = off;
                    best = way;
                }
            }
            return best == null ? -4 : what == 0 ? least : best[what - 1];
        }

        int cheap(int h, int d, int n) {
            if (!in(h, 0, 999) || !in(d, 0, 27) || !in(n, 1, 6)) {
                return -1;
            }
            return ways(n).stream().filter(way -> World.off(w.hueOf(way), h) <= d).mapToInt(this::rentOf).min().orElse(-4);
        }

        int more(int p, int c) {
            if (!isOne(p) || !isColour(c)) {
                return -1;
            }
            int most = 0;
            for (int n = 1; n <= 99; n++) {
                World v = w.copy();
                if (v.lend(p, c, n) > 0 && v.run(10).seizures <= w.copy().run(10).seizures) {
                    most = n;
                }
            }
            return most;
        }

        int swap(int what) {
            if (!in(what, 0, 1)) {
                return -1;
            }
            int fewest = w.copy().run(20).seizures;
            int who = -4;
            for (int code = 0; code < 100; code++) {
                int p = code / 10;
                int q = code % 10;
                if (p >= q || !isOne(p) || !isOne(q)) {
                    continue;
                }
                World v = w.copy();
                System.arraycopy(w.folk.get(p), 2, v.folk.get(q), 2, 5);
                System.arraycopy(w.folk.get(q), 2, v.folk.get(p), 2, 5);
                v.run(20);
                if (v.seizures < fewest) {
                    fewest = v.seizures;
                    who = code;
                }
            }
            return who == -4 ? -4 : what == 0 ? who : fewest - w.seizures;
        }

        int shed(int p, int what) {
            if (!isOne(p) || !in(what, 0, 1)) {
                return -1;
            }
            int most = w.copy().run(20).held(p);
            int which = -4;
            for (int c = 0; c < w.cols.size(); c++) {
                World v = w.copy();
                v.bring(p, c, w.folk.get(p)[2 + c]);
                v.run(20);
                if (v.held(p) > most) {
                    most = v.held(p);
                    which = c;
                }
            }
            return which == -4 ? -4 : what == 0 ? which : most;
        }

        int need(int p, int n) {
            if (!isOne(p) || !in(n, 0, 60)) {
                return -1;
            }
            for (int e = 0; e <= 99; e++) {
                World v = w.copy();
                v.folk.get(p)[1] = e;
                if (v.run(n).seizuresOf[p] == 0) {
                    return e;
                }
            }
            return -4;
        }

        int kind(int c, int n, int what) {
            if (!isColour(c) || !in(n, 0, 60) || !in(what, 0, 1)) {
                return -1;
            }
            int[] drops = new int[4];
            int best = 0;
            for (int k = 0; k < 4; k++) {
                World v = w.copy();
                v.cols.get(c)[0] = k;
                drops[k] = v.run(n).heldByAll();
                best = drops[k] > drops[best] ? k : best;
            }
            return what == 0 ? best : drops[best];
        }

        long luck(int v, int p, int n, int h, int what) {
            if (!in(v, 0, 10) || !isOne(p) || !in(n, 0, 8) || !in(h, 0, 999) || !in(what, 0, 1)) {
                return -1;
            }
            return fraction(v, n, what, p, h);
        }

        long mean(int v, int n, int what) {
            if (!in(v, 0, 10) || !in(n, 0, 8) || !in(what, 0, 1)) {
                return -1;
            }
            return fraction(v, n, what, -1, 0);
        }

        long fraction(int v, int n, int what, int p, int h) {
            BigInteger above = BigInteger.ZERO;
            for (int mask = 0; mask < 1 << n; mask++) {
                World x = w.copy();
                for (int i = 0; i < n; i++) {
                    x.day(1 + (mask >> i & 1));
                }
                int sunny = Integer.bitCount(mask);
                BigInteger odds = BigInteger.valueOf(v).pow(sunny).multiply(BigInteger.valueOf(10 - v).pow(n - sunny));
                int value = p < 0 ? x.heldByAll() : x.hue(p) == h ? 1 : 0;
                above = above.add(odds.multiply(BigInteger.valueOf(value)));
            }
            BigInteger below = BigInteger.TEN.pow(n);
            return (what == 0 ? above : below).divide(above.gcd(below)).longValueExact();
        }

        int see(int n, int p, int h) {
            if (!in(n, 0, 20) || !isOne(p) || !in(h, 0, 999)) {
                return -1;
            }
            if (seen.size() == 6) {
                return -3;
            }
            seen.add(new int[] {n, p, h});
            return seen.size();
        }

        int forget(int n) {
            int had = seen.size();
            if (!in(n, 0, had)) {
                return -1;
            }
            seen = new ArrayList<>(seen.subList(0, n));
            return had;
        }

        static boolean fits(World v, List<int[]> looks) {
            return looks.stream().allMatch(s -> v.copy().run(s[0]).hue(s[1]) == s[2]);
        }

        int kindsLeft(int c, List<int[]> looks) {
            int bits = 0;
            for (int k = 0; k < 4; k++) {
                World v = w.copy();
                v.cols.get(c)[0] = k;
                bits += fits(v, looks) ? 1 << k : 0;
            }
            return bits;
        }

        int drops(int p, int c) {
            if (!isOne(p) || !isColour(c)) {
                return -1;
            }
            int bits = 0;
            for (int n = 0; n <= 30; n++) {
                World v = w.copy();
                v.folk.get(p)[2 + c] = n;
                bits += fits(v, seen) ? 1 << n : 0;
            }
            return bits;
        }

        int ask(int c, int what) {
            if (!isColour(c) || !in(what, 0, 1)) {
                return -1;
            }
            int mask = kindsLeft(c, seen);
            int fewest = Integer.bitCount(mask);
            int look = -4;
            for (int n = 0; n <= 20; n++) {
                for (int p = 0; p < w.folk.size(); p++) {
                    Map<Integer, Integer> byHue = new HashMap<>();
                    for (int k = 0; k < 4; k++) {
                        World v = w.copy();
                        v.cols.get(c)[0] = k;
                        if ((mask >> k & 1) == 1) {
                            byHue.merge(v.run(n).hue(p), 1, Integer::sum);
                        }
                    }
                    int worst = byHue.values().stream().mapToInt(i -> i).max().orElse(0);
                    if (worst < fewest) {
                        fewest = worst;
                        look = 10 * n + p;
                    }
                }
            }
            return look == -4 ? -4 : what == 0 ? look : fewest;
        }

        int drift(int seed, int n, int what) {
            if (!in(n, 1, 60) || !in(what, 0, 1)) {
                return -1;
            }
            if (w.cols.isEmpty() || w.folk.isEmpty()) {
                return -2;
            }
            World v = w.copy();
            BigInteger s = BigInteger.valueOf(seed);
            for (int i = 0; i < n; i++) {
                s = s.multiply(BigInteger.valueOf(1103515245)).add(BigInteger.valueOf(12345));
                int got = s.shiftRight(16).mod(BigInteger.valueOf(1 << 15)).intValue();
                v.lend(got % v.folk.size(), got / 8 % v.cols.size(), got / 64 % 9 + 1);
                v.day(1);
            }
            return what == 0 ? v.heldByAll() : v.seizures - w.seizures;
        }

        int keep(int k) {
            if (!in(k, 0, 1)) {
                return -1;
            }
            int was = images[k] == null ? 0 : 1;
            images[k] = w.copy();
            return was;
        }

        int back(int k) {
            if (!in(k, 0, 1)) {
                return -1;
            }
            if (images[k] == null) {
                return -2;
            }
            w = images[k].copy();
            return w.day;
        }

        int sheet(int k, int lane, int n) {
            if (!in(k, 0, 3) || !in(lane, 0, 2) || n > 40) {
                return -1;
            }
            try {
                sheets[k] = lane == 0 ? new byte[n] : lane == 1 ? new short[n] : new int[n];
                return 1;
            } catch (NegativeArraySizeException e) {
                return -14;
            }
        }

        int lay(int k, int i, int v) {
            if (!in(k, 0, 3)) {
                return -1;
            }
            try {
                if (sheets[k] instanceof byte[] b) {
                    b[i] = (byte) v;
                } else if (sheets[k] instanceof short[] s) {
                    s[i] = (short) v;
                } else {
                    ((int[]) sheets[k])[i] = v;
                }
                return 1;
            } catch (NullPointerException e) {
                return -11;
            } catch (ArrayIndexOutOfBoundsException e) {
                return -12;
            }
        }

        static int cell(Object sheet, int lane, int i) {
            return lane == 0 ? ((byte[]) sheet)[i] : lane == 1 ? ((short[]) sheet)[i] : ((int[]) sheet)[i];
        }

        int read(int k, int lane, int f, int n) {
            if (!in(k, 0, 3) || !in(lane, 0, 2) || !in(n, 0, 13)) {
                return -1;
            }
            World v = w.copy();
            int came = 0;
            int found = 0;
            try {
                for (int i = 0; i < n; i++) {
                    int p = cell(sheets[k], lane, f + 3 * i);
                    int c = cell(sheets[k], lane, f + 3 * i + 1);
                    int d = cell(sheets[k], lane, f + 3 * i + 2);
                    if (v.lend(p, c, d) < 0) {
                        return -20 - i;
                    }
                    came++;
                }
            } catch (NullPointerException e) {
                found = 1;
            } catch (ArrayIndexOutOfBoundsException e) {
                found = 2;
            } catch (ClassCastException e) {
                found = 3;
            }
            w = v;
            torn = found;
            return came;
        }

        int count(int what) {
            return switch (what) {
                case 0 -> seen.size();
                case 1 -> (images[0] == null ? 0 : 1) + (images[1] == null ? 0 : 1);
                case 2 -> tape.length();
                case 3 -> sheets[0] == null ? -4 : java.lang.reflect.Array.getLength(sheets[0]);
                case 4 -> w.folk.stream().mapToInt(p -> p[0]).sum();
                case 5 -> w.folk.stream().mapToInt(p -> p[1]).sum();
                default -> -1;
            };
        }
    }
}
