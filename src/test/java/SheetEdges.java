/** Boundary cases of promises 34 to 40: images, sheets, counts. */
final class SheetEdges {
    static final int BAD = -1, STATE = -2, NONE = -4;
    static final int NULL = 1, INDEX = 2, CAST = 3;
    static final String WORLD = "plain 1 2 3 9;royal 4 5 6 99;one 9 9;one 50 2;";

    private SheetEdges() {
    }

    static void run() {
        keep();
        back();
        sheet();
        lay();
        lowestBits();
        readBounds();
        readFaults();
        readRefused();
        torn();
        count();
    }

    static void keep() {
        Edges.edge(34, "IMAGE k (0, 1) is COLOURS, PEOPLE, what they HOLD, DAY, SEIZURES", () -> {
            HueLease x = Edges.busy();
            x.keep(0);
            x.alter(0, 0, 3);
            x.alter(1, 2, 0);
            x.alter(2, 4, 99);
            x.pay(0, 0, 999);
            x.pay(1, 1, 0);
            x.lend(0, 3, 9);
            x.days(5);
            Edges.due(3, x.back(0));
            x.keep(0);
            // All is as it was, but for the image.
            HueLease y = Edges.busy();
            y.keep(0);
            Edges.due(1, Edges.picture(y).equals(Edges.picture(x)) ? 1 : 0);
        });
        Edges.edge(34, "whether there was one (1, 0). BAD.", () -> {
            Edges.bounds(0, 1, Edges::busy, HueLease::keep);
            HueLease x = new HueLease();
            Edges.due(0, x.keep(1));
            Edges.due(0, x.keep(0));
            Edges.due(1, x.keep(1));
            Edges.due(1, x.keep(0));
            x.text();
            Edges.due(0, x.keep(0));
            Edges.due(0, x.keep(1));
        });
    }

    static void back() {
        Edges.edge(35, "All is as IMAGE k: DAY. BAD", () -> {
            Edges.bounds(0, 1, Edges::busy, HueLease::back);
            HueLease x = Edges.of(WORLD);
            x.keep(0);
            for (int i = 0; i < 33; i++) {
                x.days(30);
            }
            x.days(9);
            x.keep(1);
            Edges.due(0, x.back(0));
            Edges.due(0, x.days(30));
            Edges.due(999, x.back(1));
            Edges.due(999, x.rule(2));
            // An image stays however often one comes back to it.
            Edges.due(0, x.back(0));
            x.lend(0, 0, 9);
            Edges.due(0, x.back(0));
            Edges.due(0, x.holds(0, 0));
        });
        Edges.edge(35, "STATE: there is none.", () -> {
            Edges.leavesAll(STATE, Edges::busy, x -> x.back(0));
            Edges.leavesAll(STATE, HueLease::new, x -> x.back(1));
            HueLease x = new HueLease();
            x.keep(1);
            Edges.due(STATE, x.back(0));
            Edges.due(0, x.back(1));
            x.text();
            Edges.due(STATE, x.back(1));
        });
        Edges.edge(35, "the first that fits", () -> {
            HueLease x = new HueLease();
            Edges.due(BAD, x.back(2));
            Edges.due(BAD, x.back(-1));
            Edges.due(STATE, x.back(1));
        });
    }

    static void sheet() {
        Edges.edge(36, "A SHEET is a new row of CELLS 0: 1.", () -> {
            for (int k = 0; k < 4; k++) {
                HueLease x = Edges.of(WORLD);
                Edges.due(1, Edges.layAll(x, k, 2, 1, 1, 1).read(k, 2, 0, 1));
                Edges.due(1, x.sheet(k, 2, 3));
                Edges.due(1, x.lay(k, 2, 4));
                // ONE 0, COLOUR 0 by cells that are 0 again.
                Edges.due(1, x.read(k, 2, 0, 1));
                Edges.due(4, x.holds(0, 0));
                Edges.due(1, x.sheet(k, 2, 4));
                Edges.due(-20, x.read(k, 2, 1, 1));
            }
        });
        Edges.edge(36, "SHEETS 0 to 3 are rows of BYTES (lane 0), SHORTS (1), INTS (2), all with a sign, with 0 to 40 CELLS, or nothing (at first).",
            () -> {
            Edges.bounds(0, 3, Edges::busy, (x, v) -> x.sheet(v, 0, 1));
            Edges.bounds(0, 2, Edges::busy, (x, v) -> x.sheet(0, v, 1));
            HueLease x = new HueLease();
            Edges.due(NONE, x.count(3));
            Edges.due(1, x.sheet(0, 0, 0));
            Edges.due(0, x.count(3));
            Edges.due(-12, x.lay(0, 0, 0));
            Edges.due(1, x.sheet(0, 0, 40));
            Edges.due(40, x.count(3));
            Edges.due(1, x.lay(0, 39, 0));
            Edges.due(-12, x.lay(0, 40, 0));
            Edges.due(1, x.sheet(0, 0, 1));
            Edges.due(-12, x.lay(0, 1, 0));
        });
        Edges.edge(36, "BAD: also n above 40", () -> {
            for (int n : new int[] {41, 42, 256, 65536, Edges.HIGH}) {
                Edges.leavesAll(BAD, Edges::busy, x -> x.sheet(0, 1, n));
                Edges.leavesAll(BAD, HueLease::new, x -> x.sheet(3, 2, n));
            }
        });
        Edges.edge(36, "-14 (SIZE): n below 0.", () -> {
            for (int n : new int[] {-1, -2, -256, Edges.LOW}) {
                Edges.leavesAll(-14, Edges::busy, x -> x.sheet(0, 1, n));
                Edges.leavesAll(-14, HueLease::new, x -> x.sheet(3, 2, n));
            }
            Edges.due(0, Edges.of(WORLD).torn());
        });
        Edges.edge(36, "the first that fits", () -> {
            HueLease x = new HueLease();
            Edges.due(BAD, x.sheet(4, 0, -1));
            Edges.due(BAD, x.sheet(-1, 0, -1));
            Edges.due(BAD, x.sheet(0, 3, -1));
            Edges.due(BAD, x.sheet(0, -1, -1));
            Edges.due(-14, x.sheet(0, 0, -1));
        });
    }

    static void lay() {
        Edges.edge(37, "BAD: k", () -> {
            Edges.bounds(0, 3, Edges::busy, (x, v) -> x.lay(v, 0, 0));
            // Ahead of what the machine finds.
            Edges.due(BAD, new HueLease().lay(4, 99, 0));
            Edges.due(BAD, new HueLease().lay(-1, -1, 0));
        });
        Edges.edge(37, "-10 less the FAULT: NULL, INDEX.", () -> {
            for (int i : new int[] {0, -1, 40, Edges.LOW, Edges.HIGH}) {
                Edges.leavesAll(-11, Edges::busy, x -> x.lay(1, i, 5));
                Edges.leavesAll(-11, Edges::busy, x -> x.lay(3, i, 5));
            }
            for (int i : new int[] {-1, -2, 7, 8, 40, 256, Edges.LOW, Edges.HIGH}) {
                Edges.leavesAll(-12, Edges::busy, x -> x.lay(0, i, 5));
            }
            for (int n : new int[] {1, 2, 39, 40}) {
                HueLease x = new HueLease();
                x.sheet(0, 2, n);
                Edges.due(-12, x.lay(0, n, 5));
                Edges.due(1, x.lay(0, n - 1, 5));
                Edges.due(1, x.lay(0, 0, 5));
            }
        });
        Edges.edge(37, "A FAULT is what the machine finds: 1 NULL (nothing), 2 INDEX, 3 CAST (another lane), 4 SIZE (below 0).", () -> {
            HueLease x = new HueLease();
            Edges.due(-11, x.lay(0, 0, 0));
            Edges.due(1, x.sheet(0, 0, 0));
            Edges.due(-12, x.lay(0, 0, 0));
            Edges.due(0, x.read(0, 1, 0, 1));
            Edges.due(3, x.torn());
            Edges.due(-14, x.sheet(0, 0, -1));
        });
    }

    static void lowestBits() {
        Edges.edge(37, "CELL i of a SHEET becomes v (its lowest bits): 1.", () -> {
            // 99 drops, or what v is when it has come round; where it is below 1 or above 99 lend() refuses it.
            int[][] bytes = {{99, 99}, {256 + 99, 99}, {99 - 256, 99}, {65536 + 1, 1}, {Edges.LOW + 1, 1}, {127, 0}, {128, 0}, {255, 0},
                {-128, 0}, {-129, 0}, {256, 0}, {257, 1}, {-255, 1}, {Edges.HIGH, 0}, {-1, 0}};
            int[][] shorts = {{99, 99}, {256 + 99, 0}, {65536 + 99, 99}, {99 - 65536, 99}, {Edges.LOW + 1, 1}, {32767, 0}, {32768, 0},
                {65535, 0}, {65536, 0}, {65537, 1}, {-65535, 1}, {Edges.HIGH, 0}, {-32769, 0}};
            int[][] ints = {{99, 99}, {256 + 99, 0}, {65536 + 99, 0}, {99 - 65536, 0}, {Edges.LOW + 1, 0}, {Edges.HIGH, 0}, {1, 1}};
            int[][][] lanes = {bytes, shorts, ints};
            for (int lane = 0; lane < 3; lane++) {
                for (int[] v : lanes[lane]) {
                    HueLease x = Edges.of(WORLD);
                    x.sheet(3, lane, 3);
                    Edges.due(1, x.lay(3, 1, 1));
                    Edges.due(1, x.lay(3, 2, v[0]));
                    Edges.due(v[1] > 0 ? 1 : -20, x.read(3, lane, 0, 1));
                    Edges.due(v[1], x.holds(0, 1));
                }
            }
        });
    }

    /** A sheet of so many cells 1: from wherever it is read, a drop of COLOUR 1 for ONE 1 stands there. */
    static HueLease ones(int cells) {
        HueLease x = Edges.of(WORLD);
        int[] all = new int[cells];
        java.util.Arrays.fill(all, 1);
        return Edges.layAll(x, 1, 2, all);
    }

    static void cameWith(int came, int fault, int cells, int f, int n) {
        HueLease x = ones(cells);
        Edges.due(came, x.read(1, 2, f, n));
        Edges.due(fault, x.torn());
        Edges.due(came, x.holds(1, 1));
        Edges.due(99 - came, x.colour(1, 4));
    }

    static void readBounds() {
        Edges.edge(38, "n (0 to 13) times a ONE, a COLOUR, how many DROPS are read of a SHEET", () -> {
            Edges.bounds(0, 13, Edges::busy, (x, v) -> x.read(0, 1, 0, v));
            cameWith(0, 0, 40, 0, 0);
            cameWith(1, 0, 40, 0, 1);
            cameWith(13, 0, 40, 0, 13);
            cameWith(13, 0, 39, 0, 13);
        });
        Edges.edge(38, "BAD: k, lane, n", () -> {
            Edges.bounds(0, 3, Edges::busy, (x, v) -> x.read(v, 1, 0, 1));
            Edges.bounds(0, 2, Edges::busy, (x, v) -> x.read(0, v, 0, 1));
            // Also where nothing would be read, and where the machine would find a fault.
            Edges.leavesAll(BAD, Edges::busy, x -> x.read(4, 0, 0, 0));
            Edges.leavesAll(BAD, Edges::busy, x -> x.read(0, 3, 0, 0));
            Edges.leavesAll(BAD, Edges::busy, x -> x.read(1, 0, 0, 14));
            Edges.leavesAll(BAD, Edges::busy, x -> x.read(0, 0, 0, -1));
        });
        Edges.edge(38, "of n 0: 0, no FAULT, whatever the SHEET is", () -> {
            HueLease x = Edges.busy();
            for (int k = 0; k < 4; k++) {
                for (int lane = 0; lane < 3; lane++) {
                    for (int f : new int[] {0, -1, 7, 40, Edges.LOW, Edges.HIGH}) {
                        Edges.due(0, x.read(k, lane, f, 0));
                        Edges.due(0, x.torn());
                    }
                }
            }
            Edges.due(10, x.rule(5));
        });
    }

    static void readFaults() {
        Edges.edge(38, "three CELLS each from CELL f on", () -> {
            cameWith(13, 0, 40, 1, 13);
            cameWith(12, INDEX, 40, 2, 13);
            cameWith(1, 0, 40, 37, 1);
            cameWith(1, INDEX, 40, 37, 2);
            for (int f : new int[] {38, 39, 40, 41, 256, -1, -2, -3, -39, Edges.LOW, Edges.LOW + 1, Edges.HIGH, Edges.HIGH - 1, Edges.HIGH - 2}) {
                cameWith(0, INDEX, 40, f, 1);
                cameWith(0, INDEX, 40, f, 13);
            }
        });
        Edges.edge(38, "What the machine refuses: those that were whole ahead came", () -> {
            cameWith(0, INDEX, 0, 0, 1);
            cameWith(0, INDEX, 1, 0, 1);
            cameWith(0, INDEX, 2, 0, 1);
            cameWith(1, 0, 3, 0, 1);
            cameWith(1, INDEX, 3, 0, 2);
            cameWith(1, INDEX, 4, 0, 13);
            cameWith(1, INDEX, 5, 0, 13);
            cameWith(2, INDEX, 6, 0, 13);
            cameWith(12, INDEX, 38, 0, 13);
        });
        Edges.edge(38, "taken as of a lane", () -> {
            for (int lane = 0; lane < 3; lane++) {
                for (int as = 0; as < 3; as++) {
                    HueLease x = Edges.layAll(Edges.of(WORLD), 2, lane, 1, 1, 1);
                    Edges.due(lane == as ? 1 : 0, x.read(2, as, 0, 1));
                    Edges.due(lane == as ? 0 : CAST, x.torn());
                    Edges.due(lane == as ? 1 : 0, x.rule(5));
                }
            }
        });
        Edges.edge(38, "the first met.", () -> {
            HueLease x = Edges.of(WORLD);
            // Nothing can be of no lane; another lane is found ahead of its cells; a loan ahead of the next cell.
            Edges.due(0, x.read(0, 2, -1, 1));
            Edges.due(NULL, x.torn());
            x.sheet(0, 1, 0);
            Edges.due(0, x.read(0, 2, -1, 1));
            Edges.due(CAST, x.torn());
            Edges.due(0, x.read(0, 1, -1, 1));
            Edges.due(INDEX, x.torn());
            Edges.layAll(x, 0, 1, 0, 0, 0, 1);
            Edges.due(-20, x.read(0, 1, 0, 2));
            Edges.due(0, x.read(0, 1, 2, 2));
            Edges.layAll(x, 0, 1, 1, 1, 1, 0, 0, 10, 2, 0, 1);
            Edges.due(-21, x.read(0, 1, 0, 3));
        });
    }

    static HueLease loans(int... cells) {
        HueLease x = Edges.of("plain 1 2 3 9;royal 4 5 6 5;one 9 9;one 50 2;lent 1 1 97;");
        x.keep(0);
        x.read(3, 0, 0, 1);
        return Edges.layAll(x, 1, 1, cells);
    }

    static void readRefused() {
        Edges.edge(38, "-20 less i (0 on): the i-th, whole, is refused by lend() (in whichever way): then none came", () -> {
            int[][] refused = {{2, 0, 1}, {-1, 0, 1}, {0, 2, 1}, {0, -1, 1}, {0, 0, 0}, {0, 0, -1}, {0, 0, 100}, {0, 0, 10}, {1, 1, 3}};
            for (int[] r : refused) {
                Edges.leavesAll(-20, () -> loans(r), x -> x.read(1, 1, 0, 1));
                Edges.leavesAll(-21, () -> loans(0, 0, 1, r[0], r[1], r[2]), x -> x.read(1, 1, 0, 2));
                Edges.leavesAll(-21, () -> loans(1, 1, 2, r[0], r[1], r[2], 0, 0, 1), x -> x.read(1, 1, 0, 3));
                Edges.due(1, loans(0, 0, 1, r[0], r[1], r[2]).read(1, 1, 0, 1));
            }
            HueLease last = ones(40);
            last.lay(1, 38, 0);
            Edges.due(-32, last.read(1, 2, 0, 13));
            Edges.due(0, last.holds(1, 1));
            Edges.due(12, last.read(1, 2, 0, 12));
        });
        Edges.edge(38, "one behind another as by lend()", () -> {
            // Nine are in the vat, and he may hold two more.
            Edges.due(2, loans(0, 0, 4, 1, 0, 5).read(1, 1, 0, 2));
            Edges.due(-21, loans(0, 0, 4, 1, 0, 6).read(1, 1, 0, 2));
            Edges.due(-22, loans(0, 0, 4, 1, 0, 5, 0, 0, 1).read(1, 1, 0, 3));
            Edges.due(2, loans(1, 1, 1, 1, 1, 1).read(1, 1, 0, 2));
            Edges.due(-22, loans(1, 1, 1, 1, 1, 1, 1, 1, 1).read(1, 1, 0, 3));
        });
    }

    static void torn() {
        Edges.edge(39, "The FAULT of the latest read() that answered 0 or more; 0", () -> {
            HueLease x = ones(4);
            Edges.due(0, x.torn());
            Edges.due(0, x.read(0, 2, 0, 1));
            Edges.due(NULL, x.torn());
            Edges.due(1, x.read(1, 2, 0, 1));
            Edges.due(0, x.torn());
            Edges.due(1, x.read(1, 2, 0, 2));
            Edges.due(INDEX, x.torn());
            Edges.due(0, x.read(1, 0, 0, 2));
            Edges.due(CAST, x.torn());
            Edges.due(0, x.read(1, 0, 0, 0));
            Edges.due(0, x.torn());
        });
        Edges.edge(39, "(one that is refused leaves it).", () -> {
            HueLease x = loans(0, 0, 10);
            Edges.due(NULL, x.torn());
            Edges.due(-20, x.read(1, 1, 0, 1));
            Edges.due(NULL, x.torn());
            Edges.due(BAD, x.read(1, 1, 0, 14));
            Edges.due(BAD, x.read(1, 3, 0, 1));
            Edges.due(BAD, x.read(4, 1, 0, 1));
            Edges.due(NULL, x.torn());
            // Neither other calls nor a text come in between.
            x.lay(1, 9, 9);
            x.sheet(1, 1, -1);
            x.text();
            Edges.due(NULL, x.torn());
        });
    }

    static void count() {
        Edges.edge(40, "4 all PURSES, 5 what all EARN. BAD.", () -> {
            Edges.bounds(0, 5, Edges::busy, HueLease::count);
            HueLease full = Edges.fullest();
            Edges.due(4 * 999, full.count(4));
            Edges.due(4 * 99, full.count(5));
            HueLease poor = Edges.of("one 0 0;one 0 0;");
            Edges.due(0, poor.count(4));
            Edges.due(0, poor.count(5));
        });
        Edges.edge(40, "0 SEEN, 1 IMAGES, 2 bytes on THE TAPE", () -> {
            HueLease x = new HueLease();
            for (int what = 0; what <= 2; what++) {
                Edges.due(0, x.count(what));
            }
            x.keep(1);
            Edges.due(1, x.count(1));
            x.keep(0);
            x.keep(0);
            Edges.due(2, x.count(1));
            Edges.tell(x, " ".repeat(161));
            Edges.due(160, x.count(2));
            HueLease y = ChanceEdges.sixLooks();
            y.see(0, 0, 0);
            Edges.due(6, y.count(0));
        });
        Edges.edge(40, "3 CELLS of SHEET 0 (NONE: nothing)", () -> {
            HueLease x = new HueLease();
            Edges.due(NONE, x.count(3));
            x.sheet(1, 0, 5);
            x.sheet(0, 0, -1);
            x.sheet(0, 0, 41);
            Edges.due(NONE, x.count(3));
            x.sheet(0, 0, 0);
            Edges.due(0, x.count(3));
            x.sheet(0, 0, 40);
            Edges.due(40, x.count(3));
            x.sheet(0, 0, 41);
            x.text();
            Edges.due(40, x.count(3));
        });
    }
}
