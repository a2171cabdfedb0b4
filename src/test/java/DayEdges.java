/** Boundary cases of promises 15 to 18: days that run, and days that would. */
final class DayEdges {
    static final int BAD = -1, FULL = -3, NONE = -4;
    static final String[] KINDS = {"plain", "lasting", "royal", "fugitive"};
    static final int[] RENTS = {2, 3, 6, 1};

    private DayEdges() {
    }

    static void run() {
        days();
        endOfDays();
        purses();
        rents();
        seizures();
        fades();
        runs();
        ahead();
        lasts();
    }

    /** One drop of a lasting colour, for which three a day are due of a purse into which nothing comes. */
    static HueLease lastingDrop(int purse) {
        HueLease x = Edges.of("lasting 1 2 3 9;one 0 0;lent 0 0 1;");
        x.pay(0, 0, purse);
        return x;
    }

    /** The busy world, late. */
    static HueLease late(int day) {
        HueLease x = Edges.busy();
        while (x.rule(2) < day) {
            x.days(Math.min(30, day - x.rule(2)));
        }
        return x;
    }

    static void days() {
        Edges.edge(15, "n DAYS (0 to 30): how many SEIZURES in them. BAD", () -> {
            Edges.bounds(0, 30, Edges::busy, HueLease::days);
            Edges.leavesAll(0, Edges::busy, x -> x.days(0));
            HueLease x = Edges.busy();
            x.days(30);
            Edges.due(33, x.rule(2));
        });
        Edges.edge(15, "how many SEIZURES in them", () -> {
            HueLease x = Edges.busy();
            Edges.due(1, x.rule(3));
            Edges.due(0, x.days(30));
            Edges.due(16, Edges.fullest().days(1));
            HueLease last = lastingDrop(3 * 29);
            Edges.due(1, last.days(30));
            HueLease kept = lastingDrop(3 * 30);
            Edges.due(0, kept.days(30));
            Edges.due(1, kept.days(1));
            Edges.due(0, kept.days(1));
            Edges.due(1, kept.rule(3));
        });
        Edges.edge(15, "DAY is 1 more.", () -> {
            HueLease x = new HueLease();
            x.days(1);
            Edges.due(1, x.rule(2));
            HueLease y = Edges.fullest();
            y.days(1);
            Edges.due(1, y.rule(2));
            y.days(2);
            Edges.due(3, y.rule(2));
        });
    }

    static void endOfDays() {
        Edges.edge(15, "FULL: DAY would be 1000 or more.", () -> {
            for (int n : new int[] {10, 11, 30}) {
                Edges.leavesAll(FULL, () -> late(990), x -> x.days(n));
            }
            HueLease x = late(990);
            Edges.due(0, x.days(9));
            Edges.due(999, x.rule(2));
            Edges.due(FULL, x.days(1));
            Edges.due(FULL, x.days(30));
            Edges.due(0, x.days(0));
            Edges.due(999, x.rule(2));
            HueLease y = late(970);
            Edges.due(FULL, y.days(30));
            Edges.due(0, y.days(29));
        });
        Edges.edge(15, "the first that fits", () -> {
            HueLease x = late(999);
            Edges.due(BAD, x.days(31));
            Edges.due(BAD, x.days(-1));
            Edges.due(FULL, x.days(30));
        });
        Edges.edge(15, "A text that is taken tells all, in place of what there was", () -> {
            HueLease x = late(999);
            x.end(0);
            x.text();
            Edges.due(0, x.days(30));
            Edges.due(30, x.rule(2));
        });
    }

    static void purses() {
        Edges.edge(15, "his PURSE is more by what he EARNS (999 at most).", () -> {
            int[][] cases = {{0, 0, 0}, {0, 99, 99}, {900, 99, 999}, {901, 99, 999}, {999, 0, 999}, {999, 99, 999}, {990, 8, 998}};
            for (int[] c : cases) {
                HueLease x = Edges.of("one 0 0;");
                x.pay(0, 0, c[0]);
                x.pay(0, 1, c[1]);
                Edges.due(c[2], x.ahead(0, 1, 1));
                x.days(1);
                Edges.due(c[2], x.one(0, 0));
            }
            // No more than 999 comes together even if some of it is due at once.
            HueLease x = Edges.of("plain 1 1 1 9;one 0 99;lent 0 0 1;");
            x.pay(0, 0, 999);
            x.days(1);
            Edges.due(997, x.one(0, 0));
        });
        Edges.edge(15, "Then for each COLOUR, by order, of which he HOLDS any", () -> {
            HueLease x = Edges.of("royal 1 1 1 9;plain 1 1 1 9;one 0 0;one 2 0;lent 1 1 1;lent 0 0 0;");
            Edges.due(0, x.days(1));
            Edges.due(0, x.rule(3));
            Edges.due(0, x.one(0, 0));
            Edges.due(0, x.one(1, 0));
            Edges.due(9, x.colour(0, 4));
            Edges.due(0, x.days(30));
        });
    }

    static void rents() {
        Edges.edge(15, "if his PURSE is RENT of all these DROPS or more, it is less by that", () -> {
            for (int kind = 0; kind < 4; kind++) {
                for (int drops : new int[] {1, 5, 99}) {
                    int rent = RENTS[kind] * drops;
                    paysJust(kind, drops, rent, 0);
                    paysJust(kind, drops, Math.max(0, rent - 99), Math.min(rent, 99));
                }
            }
        });
        Edges.edge(15, "each ONE, by order: his PURSE is more by what he EARNS", () -> {
            // What comes on a day is there for what is due on it.
            HueLease x = Edges.of("royal 1 1 1 9;one 0 6;one 0 5;lent 0 0 1;lent 1 0 1;");
            Edges.due(1, x.days(1));
            Edges.due(0, x.one(0, 0));
            Edges.due(5, x.one(1, 0));
            Edges.due(1, x.holds(0, 0));
            Edges.due(0, x.holds(1, 0));
        });
    }

    /** With a purse of just the rent he keeps his drops, with one less they are taken, and nothing is paid. */
    static void paysJust(int kind, int drops, int purse, int earned) {
        String text = KINDS[kind] + " 1 1 1 0;one 0 " + earned + ";lent 0 0 " + drops + ";";
        HueLease enough = Edges.of(text);
        enough.pay(0, 0, purse);
        Edges.due(0, enough.days(1));
        Edges.due(0, enough.one(0, 0));
        Edges.due(0, enough.colour(0, 4));
        if (purse > 0 || earned > 0) {
            HueLease less = Edges.of(text);
            less.pay(0, purse > 0 ? 0 : 1, Math.max(0, (purse > 0 ? purse : earned) - 1));
            Edges.due(1, less.days(1));
            Edges.due(purse + earned - 1, less.one(0, 0));
            Edges.due(0, less.holds(0, 0));
            Edges.due(drops, less.colour(0, 4));
        }
    }

    static void seizures() {
        Edges.edge(15, "else there is a SEIZURE: all of them go to its VAT (99 at most), he HOLDS none of it.", () -> {
            int[][] cases = {{0, 99, 99}, {95, 4, 99}, {95, 5, 99}, {94, 4, 98}, {99, 1, 99}, {99, 99, 99}, {0, 1, 1}};
            for (int[] c : cases) {
                HueLease x = Edges.of("lasting 1 1 1 " + c[0] + ";one 0 0;lent 0 0 " + c[1] + ";");
                Edges.due(1, x.days(1));
                Edges.due(c[2], x.colour(0, 4));
                Edges.due(0, x.holds(0, 0));
                Edges.due(0, x.days(1));
            }
            HueLease two = Edges.of("lasting 1 1 1 90;one 0 0;one 0 0;lent 0 0 8;lent 1 0 8;");
            Edges.due(2, two.days(1));
            Edges.due(99, two.colour(0, 4));
        });
    }

    static void fades() {
        Edges.edge(15, "fugitive three times as many as a plain one; all he HOLDS at most.", () -> {
            int[][] left = {{0, 0, 1, 2, 3, 98}, {0, 1, 2, 3, 4, 99}, {0, 1, 2, 3, 4, 99}, {0, 0, 0, 0, 1, 96}};
            int[] drops = {0, 1, 2, 3, 4, 99};
            for (int kind = 0; kind < 4; kind++) {
                for (int i = 0; i < drops.length; i++) {
                    HueLease x = Edges.of(KINDS[kind] + " 1 1 1 7;one 0 0;lent 0 0 " + drops[i] + ";");
                    x.pay(0, 0, 999);
                    x.days(1);
                    Edges.due(left[kind][i], x.holds(0, 0));
                    // What fades is gone: it does not come to the vat.
                    Edges.due(7, x.colour(0, 4));
                    Edges.due(0, x.rule(3));
                }
            }
        });
    }

    static void runs() {
        Edges.edge(16, "BY DAYS, n of them (0 to 60)", () -> {
            Edges.bounds(0, 60, Edges::busy, (x, v) -> x.runs(v, 0));
            for (int what = 0; what <= 3; what++) {
                int asked = what;
                long answer = what == 0 ? 10 : what == 3 ? NONE : 0;
                Edges.leavesAll(answer, Edges::busy, x -> x.runs(0, asked));
            }
            // The last of sixty days, and the day behind it.
            Edges.due(1, lastingDrop(3 * 59).runs(60, 1));
            Edges.due(0, lastingDrop(3 * 60).runs(60, 1));
            Edges.due(3 * 59, lastingDrop(3 * 59 + 2).runs(60, 2));
            Edges.due(3 * 60, lastingDrop(3 * 60).runs(60, 2));
            Edges.due(0, lastingDrop(3 * 59).runs(60, 0));
            Edges.due(1, lastingDrop(3 * 60).runs(60, 0));
        });
        Edges.edge(16, "behind how many first there was one (3; 1: in the first DAY; NONE). BAD.", () -> {
            Edges.bounds(0, 3, Edges::busy, (x, v) -> x.runs(60, v));
            Edges.due(1, lastingDrop(0).runs(1, 3));
            Edges.due(1, lastingDrop(2).runs(60, 3));
            Edges.due(2, lastingDrop(3).runs(60, 3));
            Edges.due(NONE, lastingDrop(3).runs(1, 3));
            Edges.due(60, lastingDrop(3 * 59).runs(60, 3));
            Edges.due(NONE, lastingDrop(3 * 59).runs(59, 3));
            Edges.due(NONE, lastingDrop(3 * 60).runs(60, 3));
            Edges.due(NONE, lastingDrop(0).runs(0, 3));
            // Of several the first is told.
            Edges.due(2, Edges.of("lasting 1 1 1 9;one 3 0;one 6 0;lent 0 0 1;lent 1 0 1;").runs(60, 3));
        });
        Edges.edge(16, "BY DAYS: as it would be from now on.", () -> {
            Edges.leavesAll(9, Edges::busy, x -> x.runs(1, 0));
            // What was seized before now does not count, and days do not come to an end at 999.
            HueLease x = lastingDrop(0);
            x.days(1);
            Edges.due(0, x.runs(60, 1));
            Edges.due(NONE, x.runs(60, 3));
            Edges.due(5, late(999).runs(60, 0));
            // Each is asked anew.
            HueLease y = lastingDrop(9);
            Edges.due(9, y.runs(60, 2));
            Edges.due(9, y.runs(60, 2));
            y.days(1);
            Edges.due(6, y.runs(60, 2));
            Edges.due(3, y.runs(1, 2));
        });
    }

    static void ahead() {
        Edges.edge(17, "BY DAYS, n of them (0 to 60)", () -> {
            Edges.bounds(0, 60, Edges::busy, (x, v) -> x.ahead(0, v, 0));
            Edges.leavesAll(42, Edges::busy, x -> x.ahead(0, 0, 1));
            Edges.due(0, lastingDrop(3 * 59).ahead(0, 60, 2));
            Edges.due(1, lastingDrop(3 * 59).ahead(0, 59, 2));
            Edges.due(1, lastingDrop(3 * 60).ahead(0, 60, 2));
            Edges.due(0, lastingDrop(3 * 59).ahead(0, 60, 0));
            Edges.due(123, lastingDrop(3 * 60).ahead(0, 60, 0));
            Edges.due(0, lastingDrop(3 * 60).ahead(0, 60, 1));
            Edges.due(2, lastingDrop(3 * 59 + 2).ahead(0, 60, 1));
        });
        Edges.edge(17, "DROPS that he HOLDS (2).", () -> {
            HueLease x = Edges.of("plain 1 1 1 9;fugitive 2 2 2 9;one 99 99;lent 0 0 3;lent 0 1 4;");
            int[] left = {7, 3, 1, 0, 0};
            for (int n = 0; n < left.length; n++) {
                Edges.due(left[n], x.ahead(0, n, 2));
            }
            Edges.due(111, x.ahead(0, 2, 0));
            Edges.due(0, x.ahead(0, 3, 0));
        });
        Edges.edge(17, "DROPS that he HOLDS (2). BAD.", () -> {
            Edges.bounds(0, 2, Edges::busy, (x, v) -> x.ahead(1, 1, v));
            Edges.bounds(0, 1, Edges::busy, (x, v) -> x.ahead(v, 1, 0));
            Edges.bounds(0, 3, Edges::fullest, (x, v) -> x.ahead(v, 60, 2));
        });
        Edges.edge(17, "his PURSE (1)", () -> {
            HueLease x = Edges.of("one 99 99;one 0 0;");
            Edges.due(99 + 9 * 99, x.ahead(0, 9, 1));
            Edges.due(999, x.ahead(0, 10, 1));
            Edges.due(999, x.ahead(0, 60, 1));
            Edges.due(0, x.ahead(1, 60, 1));
        });
    }

    static void lasts() {
        Edges.edge(18, "BY DAYS: behind how many (0 to 60) a ONE HOLDS no DROPS first.", () -> {
            Edges.due(0, Edges.of("one 1 1;").lasts(0));
            Edges.due(0, Edges.of("plain 1 1 1 1;one 1 1;lent 0 0 0;").lasts(0));
            Edges.due(1, lastingDrop(0).lasts(0));
            Edges.due(2, lastingDrop(3).lasts(0));
            Edges.due(60, lastingDrop(3 * 59).lasts(0));
            Edges.leavesAll(NONE, Edges::busy, x -> x.lasts(0));
            Edges.due(1, Edges.of("fugitive 1 1 1 1;one 9 9;lent 0 0 3;").lasts(0));
            Edges.due(2, Edges.of("fugitive 1 1 1 1;one 9 9;lent 0 0 4;").lasts(0));
        });
        Edges.edge(18, "BAD; NONE: behind none.", () -> {
            Edges.bounds(0, 1, Edges::busy, HueLease::lasts);
            Edges.bounds(0, 3, Edges::fullest, HueLease::lasts);
            Edges.due(NONE, lastingDrop(3 * 60).lasts(0));
            Edges.due(NONE, lastingDrop(999).lasts(0));
            HueLease x = Edges.of("plain 1 1 1 9;one 0 99;one 0 99;lent 0 0 60;lent 1 0 61;");
            x.pay(0, 0, 999);
            x.pay(1, 0, 999);
            Edges.due(60, x.lasts(0));
            Edges.due(NONE, x.lasts(1));
        });
    }
}
