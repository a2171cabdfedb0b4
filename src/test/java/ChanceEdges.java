/** Boundary cases of promises 26 to 33: sunny days, what it was, days by a seed. */
final class ChanceEdges {
    static final int BAD = -1, STATE = -2, FULL = -3, NONE = -4;
    static final String TWO = "plain 9 0 0 9;lasting 0 9 0 9;one 99 99;lent 0 0 2;lent 0 1 2;";
    static final String RICH = "plain 9 0 0 9;lasting 0 9 0 9;one 99 99;lent 0 0 4;lent 0 1 1;";
    /** Seeds whose next ones have no bit, and all bits, below 16: one less, or one more, is told from 12345 by them. */
    static final int LEAST_CARRY = 42627, MOST_CARRY = 47902;
    static final int[] SEEDS = {0, 1, 2, LEAST_CARRY, MOST_CARRY, -1, -2, 7, 12345, 99999, 1 << 15, 1 << 16, 1 << 30, -(1 << 30), Edges.HIGH, Edges.LOW};

    private ChanceEdges() {
    }

    static void run() {
        luck();
        fractions();
        mean();
        see();
        forget();
        kinds();
        drops();
        ask();
        drift();
        driftsOfSeeds();
    }

    static void luckIs(HueLease x, int v, int n, int h, long above, long below) {
        Edges.due(above, x.luck(v, 0, n, h, 0));
        Edges.due(below, x.luck(v, 0, n, h, 1));
    }

    static void luck() {
        Edges.edge(26, "Each of n DAYS (0 to 8) from now on", () -> {
            Edges.bounds(0, 8, Edges::busy, (x, v) -> x.luck(5, 0, v, 803, 0));
            HueLease x = Edges.of(TWO);
            for (int v = 0; v <= 10; v++) {
                luckIs(x, v, 0, 440, 1, 1);
                luckIs(x, v, 0, 441, 0, 1);
            }
            // Only eight sunny days take sixteen drops.
            HueLease y = Edges.of("plain 9 0 0 9;lasting 0 9 0 9;one 99 99;lent 0 0 16;lent 0 1 1;");
            luckIs(y, 1, 8, 90, 1, 100000000);
            luckIs(y, 5, 8, 90, 1, 256);
            luckIs(y, 9, 8, 90, 43046721, 100000000);
            luckIs(y, 9, 7, 90, 0, 1);
        });
        Edges.edge(26, "is a sunny one by v out of ten (0 to 10), by itself", () -> {
            Edges.bounds(0, 10, Edges::busy, (x, v) -> x.luck(v, 0, 1, 803, 0));
            HueLease x = Edges.of(TWO);
            luckIs(x, 0, 1, 360, 1, 1);
            luckIs(x, 0, 1, 90, 0, 1);
            luckIs(x, 1, 1, 90, 1, 10);
            luckIs(x, 9, 1, 90, 9, 10);
            luckIs(x, 10, 1, 90, 1, 1);
            luckIs(x, 10, 1, 360, 0, 1);
        });
        Edges.edge(26, "that HUE of a ONE is h behind them: 0, 1. BAD.", () -> {
            Edges.bounds(0, 1, Edges::busy, (x, v) -> x.luck(5, v, 1, 0, 0));
            Edges.bounds(0, 3, Edges::fullest, (x, v) -> x.luck(5, v, 0, 999, 1));
            Edges.bounds(0, 999, Edges::busy, (x, v) -> x.luck(5, 0, 1, v, 0));
            Edges.bounds(0, 1, Edges::busy, (x, v) -> x.luck(5, 0, 1, 0, v));
            // Nothing but a plain drop: none is left, be it sunny or not.
            luckIs(Edges.of("plain 9 9 9 9;one 9 9;lent 0 0 1;"), 5, 1, 0, 1, 1);
            luckIs(Edges.of("lasting 9 9 9 9;one 99 99;lent 0 0 1;"), 5, 8, 999, 1, 1);
            Edges.leavesAll(10, Edges::busy, x -> x.luck(1, 0, 1, 803, 1));
        });
    }

    static void fractions() {
        Edges.edge(26, "Fractions are in lowest terms, told as two numbers, first the numerator, then the denominator, which is above 0"
            + " (0 is 0 by 1).", () -> {
            HueLease x = Edges.of(TWO);
            int[][] lowest = {{0, 0, 1}, {1, 1, 10}, {2, 1, 5}, {3, 3, 10}, {4, 2, 5}, {5, 1, 2}, {6, 3, 5}, {7, 7, 10}, {8, 4, 5},
                {9, 9, 10}, {10, 1, 1}};
            for (int[] f : lowest) {
                luckIs(x, f[0], 1, 90, f[1], f[2]);
                luckIs(x, 10 - f[0], 1, 360, f[1], f[2]);
            }
            for (int n = 0; n <= 8; n++) {
                luckIs(x, 5, n, 999, 0, 1);
            }
        });
        Edges.edge(27, "(0 is 0 by 1)", () -> {
            HueLease none = Edges.of("plain 1 1 1 9;one 9 9;");
            HueLease gone = Edges.of("plain 1 1 1 9;one 9 9;lent 0 0 1;");
            for (int n = 1; n <= 8; n++) {
                meanIs(none, 3, n, 0, 1);
                meanIs(gone, 3, n, 0, 1);
            }
        });
    }

    static void meanIs(HueLease x, int v, int n, long above, long below) {
        Edges.due(above, x.mean(v, n, 0));
        Edges.due(below, x.mean(v, n, 1));
    }

    /** So many drops of a kind, with a purse that is deep enough for some days. */
    static HueLease drops(String kind, int drops) {
        HueLease x = Edges.of(kind + " 1 1 1 9;one 0 99;lent 0 0 " + drops + ";");
        x.pay(0, 0, 999);
        return x;
    }

    static void mean() {
        Edges.edge(27, "Likewise, the mean of DROPS that all HOLD behind them: 0, 1. BAD.", () -> {
            Edges.bounds(0, 10, Edges::busy, (x, v) -> x.mean(v, 8, 0));
            Edges.bounds(0, 8, Edges::busy, (x, v) -> x.mean(5, v, 0));
            Edges.bounds(0, 1, Edges::busy, (x, v) -> x.mean(5, 1, v));
            meanIs(Edges.fullest(), 5, 0, 4 * 5 * 99, 1);
            meanIs(Edges.fullest(), 5, 1, 4 * 99, 1);
            meanIs(new HueLease(), 5, 8, 0, 1);
            Edges.leavesAll(19, Edges::busy, x -> x.mean(0, 1, 0) + x.mean(0, 0, 0));
        });
        Edges.edge(26, "(all FADE twice in it: two times as many DROPS, all he HOLDS at most)", () -> {
            int[][] plain = {{0, 0, 0}, {1, 0, 0}, {2, 1, 0}, {3, 2, 1}};
            for (int[] w : plain) {
                leftBehindADay("plain", w[0], w[1], w[2]);
            }
            int[][] fugitive = {{1, 0, 0}, {3, 0, 0}, {4, 1, 0}, {6, 3, 0}, {7, 4, 1}};
            for (int[] w : fugitive) {
                leftBehindADay("fugitive", w[0], w[1], w[2]);
            }
            leftBehindADay("lasting", 1, 1, 1);
            leftBehindADay("royal", 1, 1, 1);
        });
        Edges.edge(27, "Likewise, the mean of DROPS that all HOLD behind them", () -> {
            // Twelve fade in the mean; of fifteen no sixteenth fades on eight sunny days.
            meanIs(drops("plain", 16), 5, 8, 4, 1);
            meanIs(drops("plain", 15), 5, 8, 3 * 256 + 1, 256);
            meanIs(drops("plain", 3), 1, 1, 19, 10);
        });
    }

    static void leftBehindADay(String kind, int drops, int dull, int sunny) {
        HueLease x = drops(kind, drops);
        meanIs(x, 0, 1, dull, 1);
        meanIs(x, 10, 1, sunny, 1);
        luckIs(x, 0, 1, dull > 0 ? 111 : 0, 1, 1);
        luckIs(x, 10, 1, sunny > 0 ? 111 : 0, 1, 1);
    }

    static HueLease sixLooks() {
        HueLease x = Edges.busy();
        for (int n = 3; n <= 6; n++) {
            Edges.due(n, x.see(20, 1, 78));
        }
        return x;
    }

    static void see() {
        Edges.edge(28, "SEEN: behind n DAYS (0 to 20) HUE of a ONE is h", () -> {
            Edges.bounds(0, 20, Edges::busy, (x, v) -> x.see(v, 0, 0));
            // Three a day are due for a lasting drop: for just twenty days, and for one less.
            HueLease x = Edges.of("lasting 9 0 0 9;one 60 0;lent 0 0 1;");
            Edges.due(1, x.see(20, 0, 900));
            Edges.due(2, x.kinds(0));
            x.pay(0, 0, 59);
            Edges.due(0, x.kinds(0));
            x.forget(0);
            Edges.due(1, x.see(20, 0, 0));
            Edges.due(15, x.kinds(0));
            x.pay(0, 0, 60);
            Edges.due(13, x.kinds(0));
        });
        Edges.edge(28, "HUE of a ONE is h: how many are.", () -> {
            // The last one of four holds what is looked at, the first one does not.
            HueLease x = Edges.of("plain 9 0 0 9;lasting 0 9 0 9;one 1 1;one 1 1;one 1 1;one 99 99;lent 3 0 4;lent 3 1 1;");
            Edges.due(1, x.see(1, 3, 620));
            Edges.due(1, x.kinds(0));
            Edges.due(2, x.see(1, 0, 0));
            Edges.due(1, x.kinds(0));
            Edges.due(3, x.see(1, 0, 620));
            Edges.due(0, x.kinds(0));
        });
        Edges.edge(28, "how many are. BAD; FULL.", () -> {
            Edges.bounds(0, 1, Edges::busy, (x, v) -> x.see(0, v, 0));
            Edges.bounds(0, 3, Edges::fullest, (x, v) -> x.see(0, v, 0));
            Edges.bounds(0, 999, Edges::busy, (x, v) -> x.see(0, 0, v));
            Edges.leavesAll(FULL, ChanceEdges::sixLooks, x -> x.see(0, 0, 0));
        });
        Edges.edge(28, "SEEN (6)", () -> {
            HueLease x = Edges.of("one 1 1;");
            for (int n = 1; n <= 6; n++) {
                Edges.due(n, x.see(0, 0, 0));
                Edges.due(n, x.count(0));
            }
            Edges.due(FULL, x.see(0, 0, 0));
            Edges.due(6, x.count(0));
            Edges.due(6, x.forget(5));
            Edges.due(6, x.see(0, 0, 0));
            Edges.due(FULL, x.see(0, 0, 0));
        });
        Edges.edge(28, "the first that fits", () -> {
            HueLease x = sixLooks();
            Edges.due(BAD, x.see(21, 0, 0));
            Edges.due(BAD, x.see(0, 2, 0));
            Edges.due(BAD, x.see(0, 0, 1000));
            Edges.due(FULL, x.see(20, 1, 999));
        });
    }

    static void forget() {
        Edges.edge(29, "SEEN are the first n alone: how many there were.", () -> {
            HueLease x = Edges.of(RICH);
            Edges.due(0, x.forget(0));
            x.see(0, 0, 710);
            x.see(1, 0, 620);
            x.see(1, 0, 0);
            Edges.due(3, x.forget(3));
            Edges.due(0, x.kinds(0));
            Edges.due(3, x.forget(2));
            Edges.due(1, x.kinds(0));
            Edges.due(2, x.forget(1));
            Edges.due(15, x.kinds(0));
            Edges.due(1, x.forget(0));
            Edges.due(0, x.forget(0));
            Edges.due(0, x.count(0));
        });
        Edges.edge(29, "BAD (n above that, too).", () -> {
            Edges.bounds(0, 2, Edges::busy, HueLease::forget);
            Edges.bounds(0, 6, ChanceEdges::sixLooks, HueLease::forget);
            Edges.bounds(0, 0, HueLease::new, HueLease::forget);
        });
    }

    static void kinds() {
        Edges.edge(30, "KINDS of a COLOUR (bits) by which, all else as it is, all is as SEEN. BAD.", () -> {
            Edges.bounds(0, 3, Edges::busy, HueLease::kinds);
            Edges.bounds(0, 4, Edges::fullest, HueLease::kinds);
            // Nothing is seen: any kind will do; nothing fits: none.
            HueLease x = Edges.of(RICH);
            Edges.due(15, x.kinds(0));
            x.see(0, 0, 711);
            Edges.due(0, x.kinds(0));
            x.forget(0);
            x.see(0, 0, 710);
            Edges.due(15, x.kinds(0));
            x.see(1, 0, 620);
            Edges.due(1, x.kinds(0));
            x.see(1, 0, 710);
            Edges.due(0, x.kinds(0));
            x.forget(0);
            x.see(1, 0, 440);
            Edges.due(8, x.kinds(0));
            x.forget(0);
            x.see(20, 0, 90);
            Edges.due(9, x.kinds(0));
            x.forget(0);
            x.see(20, 0, 710);
            Edges.due(6, x.kinds(0));
            Edges.due(0, x.colour(0, 0));
        });
        Edges.edge(30, "SEEN (6): behind n DAYS (0 to 20) from how it stands when that is asked of (not from see() on)", () -> {
            HueLease x = Edges.of(RICH);
            x.see(1, 0, 620);
            Edges.due(1, x.kinds(0));
            x.keep(0);
            x.days(1);
            Edges.due(6, x.kinds(0));
            x.back(0);
            Edges.due(1, x.kinds(0));
            x.see(0, 0, 710);
            Edges.due(1, x.kinds(0));
            x.days(1);
            Edges.due(0, x.kinds(0));
        });
    }

    static HueLease sixty(int held) {
        return Edges.of("plain 9 0 0 9;lasting 0 9 0 9;one 99 99;lent 0 0 " + held + ";lent 0 1 60;");
    }

    static void drops() {
        Edges.edge(31, "DROPS of a COLOUR that a ONE may HOLD (0 to 30; bits)", () -> {
            HueLease x = Edges.of("plain 9 0 0 9;one 99 99;lent 0 0 99;");
            Edges.due(Edges.HIGH, x.drops(0, 0));
            x.see(0, 0, 900);
            Edges.due(Edges.HIGH - 1, x.drops(0, 0));
            x.forget(0);
            x.see(0, 0, 0);
            Edges.due(1, x.drops(0, 0));
            x.forget(0);
            x.see(0, 0, 1);
            Edges.due(0, x.drops(0, 0));
            // With sixty of another: a third of the light from thirty on.
            HueLease y = sixty(30);
            y.see(0, 0, 360);
            Edges.due(1 << 30, y.drops(0, 0));
            y.forget(0);
            y.see(0, 0, 260);
            Edges.due((1 << 30) - (1 << 18), y.drops(0, 0));
            // 31 are more than are asked about, even if he holds them.
            HueLease z = sixty(31);
            z.see(0, 0, 350);
            Edges.due(0, z.drops(0, 0));
            Edges.due(31, z.holds(0, 0));
        });
        Edges.edge(31, "by which, all else as it is, all is as SEEN. BAD.", () -> {
            Edges.bounds(0, 1, Edges::busy, (x, v) -> x.drops(v, 0));
            Edges.bounds(0, 3, Edges::busy, (x, v) -> x.drops(0, v));
            Edges.bounds(0, 3, Edges::fullest, (x, v) -> x.drops(v, 4));
            Edges.bounds(0, 4, Edges::fullest, (x, v) -> x.drops(3, v));
            // The vat has none of what he may hold.
            HueLease x = Edges.of("plain 9 0 0 0;one 99 99;");
            x.see(1, 0, 900);
            Edges.due(Edges.HIGH - 3, x.drops(0, 0));
            // For thirty plain drops sixty are due: they may be taken from him.
            HueLease poor = Edges.of("plain 9 0 0 0;one 20 0;");
            poor.see(1, 0, 900);
            Edges.due((1 << 11) - 4, poor.drops(0, 0));
        });
    }

    static void ask() {
        Edges.edge(32, "Behind how many DAYS (0 to 20), at which ONE to look of which HUE he is", () -> {
            HueLease x = Edges.of("lasting 9 0 0 9;lasting 0 9 0 9;one 0 0;lent 0 0 1;lent 0 1 1;");
            x.see(1, 0, 440);
            // Nine a day are due if it is royal: on the twentieth day he can not pay them, or on the next.
            x.pay(0, 0, 9 * 19);
            Edges.due(6, x.kinds(0));
            Edges.due(200, x.ask(0, 0));
            Edges.due(1, x.ask(0, 1));
            x.pay(0, 0, 9 * 20);
            Edges.due(NONE, x.ask(0, 0));
            Edges.due(NONE, x.ask(0, 1));
            x.pay(0, 0, 9);
            Edges.due(20, x.ask(0, 0));
        });
        Edges.edge(32, "10 times the DAYS and who, of several the least (what 0), how many these are (1).", () -> {
            String drops = "plain9 0 0 9;lasting0 9 0 9;";
            HueLease last = Edges.of(drops + "one 0 0;one 0 0;one 0 0;one 99 99;lent 3 0 4;lent 3 1 1;");
            Edges.due(13, last.ask(0, 0));
            Edges.due(2, last.ask(0, 1));
            HueLease two = Edges.of(drops + "one 0 0;one 99 99;one 99 99;lent 1 0 4;lent 1 1 1;lent 2 0 4;lent 2 1 1;");
            Edges.due(11, two.ask(0, 0));
            // Royal ones are taken on the second day, fugitive ones are gone behind the tenth, plain and lasting ones stay alike.
            HueLease same = Edges.of("plain 9 0 0 9;one 99 99;lent 0 0 30;");
            Edges.due(100, same.ask(0, 0));
            Edges.due(2, same.ask(0, 1));
            // A later look that leaves fewer goes ahead of an earlier one.
            HueLease later = Edges.of(drops + "one 60 0;lent 0 0 8;lent 0 1 1;");
            Edges.due(20, later.ask(0, 0));
            Edges.due(1, later.ask(0, 1));
        });
        Edges.edge(32, "so that of KINDS of a COLOUR fewest are left at the worst, fewer than now", () -> {
            HueLease x = Edges.of(RICH);
            Edges.due(10, x.ask(0, 0));
            Edges.due(2, x.ask(0, 1));
            x.see(1, 0, 710);
            Edges.due(6, x.kinds(0));
            Edges.due(NONE, x.ask(0, 0));
            x.forget(0);
            x.see(1, 0, 620);
            Edges.due(NONE, x.ask(0, 0));
            x.see(1, 0, 0);
            Edges.due(NONE, x.ask(0, 0));
            Edges.due(NONE, x.ask(0, 1));
        });
        Edges.edge(32, "BAD; NONE: none.", () -> {
            Edges.bounds(0, 3, Edges::busy, (x, v) -> x.ask(v, 0));
            Edges.bounds(0, 1, Edges::busy, (x, v) -> x.ask(0, v));
            Edges.bounds(0, 4, Edges::fullest, (x, v) -> x.ask(v, 1));
            for (int what = 0; what <= 1; what++) {
                Edges.due(NONE, Edges.of("plain 1 1 1 1;").ask(0, what));
                Edges.due(NONE, Edges.of("plain 1 1 1 1;one 1 1;").ask(0, what));
                Edges.due(NONE, Edges.of("plain 0 0 0 1;one 99 99;lent 0 0 9;").ask(0, what));
            }
        });
    }

    static void drift() {
        Edges.edge(33, "n DAYS (1 to 60) by a seed", () -> {
            Edges.bounds(1, 60, Edges::busy, (x, v) -> x.drift(7, v, 0));
            // The vat is empty: nothing is lent, one drop is paid for while the purse lasts.
            HueLease x = Edges.of("lasting 1 1 1 0;one 0 0;lent 0 0 1;");
            x.pay(0, 0, 3 * 59);
            Edges.due(1, x.drift(7, 59, 0));
            Edges.due(0, x.drift(7, 59, 1));
            Edges.due(0, x.drift(7, 60, 0));
            Edges.due(1, x.drift(7, 60, 1));
            x.pay(0, 0, 3 * 60);
            Edges.due(1, x.drift(7, 60, 0));
            Edges.due(0, x.drift(7, 60, 1));
        });
        Edges.edge(33, "DROPS that all HOLD in the end (what 0)", () -> {
            // What they held ahead of it counts; what fades on the last day does not.
            HueLease x = Edges.of("plain 1 1 1 0;lasting 1 1 1 0;one 99 99;one 99 99;lent 0 0 2;lent 1 1 3;");
            Edges.due(4, x.drift(7, 1, 0));
            Edges.due(3, x.drift(7, 2, 0));
            Edges.due(3, x.drift(7, 20, 0));
        });
        Edges.edge(33, "By itself (as it would be; nothing is changed)", () -> {
            HueLease x = Edges.busy();
            int answer = x.drift(7, 60, 0);
            Edges.leavesAll(answer, Edges::busy, y -> y.drift(7, 60, 0));
            HueLease late = DayEdges.late(999);
            Edges.due(1, late.drift(7, 60, 0) >= 0 ? 1 : 0);
            Edges.due(999, late.rule(2));
        });
        Edges.edge(33, "SEIZURES in them (1). BAD", () -> {
            Edges.bounds(0, 1, Edges::busy, (x, v) -> x.drift(7, 1, v));
            HueLease x = Edges.of("lasting 1 1 1 0;one 0 0;lent 0 0 1;");
            Edges.due(1, x.drift(7, 1, 1));
            x.days(1);
            x.alter(0, 4, 0);
            Edges.due(0, x.drift(7, 60, 1));
        });
        Edges.edge(33, "STATE: there are no COLOURS, or nobody.", () -> {
            Edges.leavesAll(STATE, HueLease::new, x -> x.drift(7, 1, 0));
            Edges.due(STATE, Edges.of("one 1 1;").drift(7, 60, 1));
            Edges.due(STATE, Edges.of("plain 1 1 1 1;").drift(7, 1, 0));
            Edges.due(BAD, new HueLease().drift(7, 0, 0));
            Edges.due(BAD, new HueLease().drift(7, 61, 0));
            Edges.due(BAD, new HueLease().drift(7, 1, 2));
        });
    }

    /** Bits 16 to 30 of the next seed, by numbers that do not come round. */
    static int got(long seed) {
        return (int) (Math.floorMod(seed * 1103515245L + 12345L, 1L << 31) >> 16);
    }

    static void driftsOfSeeds() {
        Edges.edge(33, "ahead of each the seed becomes seed times 1103515245 and 12345; bits 16 to 30 of it are got", () -> {
            String world = "lasting1 1 1 99;".repeat(5) + "one99 99;".repeat(4);
            for (int seed : SEEDS) {
                Edges.due(1 + got(seed) / 64 % 9, Edges.of(world).drift(seed, 1, 0));
            }
            // 12345 has no bits from 16 on: one drop of the first colour for the first one.
            Edges.due(1, Edges.of(world).drift(0, 1, 0));
        });
        Edges.edge(33, "ONE got modulo PEOPLE is lent 1 more than (got by 64 (down) modulo 9) DROPS of COLOUR got by 8 (down) modulo COLOURS",
            () -> {
            for (int people = 1; people <= 4; people++) {
                for (int colours = 1; colours <= 5; colours++) {
                    for (int seed : SEEDS) {
                        lendsTo(seed, people, colours);
                    }
                }
            }
        });
        Edges.edge(33, "as by lend(), if that can be", () -> {
            for (int seed : SEEDS) {
                int n = 1 + got(seed) / 64 % 9;
                HueLease x = Edges.of("lasting 1 1 1 9;one 99 99;");
                x.alter(0, 4, n);
                Edges.due(n, x.drift(seed, 1, 0));
                x.alter(0, 4, n - 1);
                Edges.due(0, x.drift(seed, 1, 0));
                x.alter(0, 0, 3);
                x.alter(0, 4, 99);
                x.lend(0, 0, 99 - n);
                x.alter(0, 4, 99);
                Edges.due(99 - 3, x.drift(seed, 1, 0));
                x.lend(0, 0, 1);
                Edges.due(100 - n - 3, x.drift(seed, 1, 0));
            }
        });
    }

    /** All but the ONE and the COLOUR that are due can not be lent anything, or can not pay. */
    static void lendsTo(int seed, int people, int colours) {
        HueLease x = Edges.of("lasting1 1 1 9;".repeat(colours) + "one9 99;".repeat(people));
        int p = got(seed) % people;
        int c = got(seed) / 8 % colours;
        int n = 1 + got(seed) / 64 % 9;
        Edges.due(n, x.drift(seed, 1, 0));
        x.pay(p, 0, 0);
        x.pay(p, 1, 0);
        Edges.due(0, x.drift(seed, 1, 0));
        Edges.due(1, x.drift(seed, 1, 1));
        x.alter(c, 4, 0);
        Edges.due(0, x.drift(seed, 1, 1));
    }
}
