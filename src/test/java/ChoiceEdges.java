/** Boundary cases of promises 19 to 25: what is best. */
final class ChoiceEdges {
    static final int BAD = -1, NONE = -4;
    static final String FIVE = "plain9 0 0 9;lasting0 9 0 9;royal0 0 9 9;fugitive9 9 9 9;plain0 0 0 9;";

    private ChoiceEdges() {
    }

    static void run() {
        mix();
        ofSeveralMixes();
        cheap();
        more();
        swap();
        shed();
        need();
        kind();
    }

    static void mix() {
        Edges.edge(19, "Of n DROPS (1 to 6) from the VATS", () -> {
            Edges.bounds(1, 6, Edges::busy, (x, v) -> x.mix(500, v, 0));
            HueLease x = Edges.of("plain 4 5 6 1;royal 9 9 9 5;");
            Edges.due(0, x.mix(456, 1, 0));
            Edges.due(1, x.mix(456, 6, 1));
            Edges.due(5, x.mix(456, 6, 2));
        });
        Edges.edge(19, "those whose HUE is least OFF a HUE (0 to 999)", () -> {
            Edges.bounds(0, 999, Edges::busy, (x, v) -> x.mix(v, 1, 0));
            HueLease x = Edges.of(FIVE);
            Edges.due(0, x.mix(0, 6, 0));
            Edges.due(0, x.mix(999, 6, 0));
            Edges.due(27, Edges.of("plain 0 0 0 1;").mix(999, 1, 0));
            Edges.due(27, Edges.of("plain 9 9 9 6;").mix(0, 6, 0));
            Edges.due(1, Edges.of("plain 0 0 0 1;").mix(999, 1, 1));
        });
        Edges.edge(19, "(of each no more than there are)", () -> {
            HueLease x = Edges.of("plain 9 9 9 2;royal 0 0 0 9;");
            int[][] want = {{1, 0, 1, 0}, {2, 0, 2, 0}, {3, 9, 2, 1}, {6, 18, 2, 4}};
            for (int[] w : want) {
                Edges.due(w[1], x.mix(999, w[0], 0));
                Edges.due(w[2], x.mix(999, w[0], 1));
                Edges.due(w[3], x.mix(999, w[0], 2));
            }
            x.alter(0, 4, 0);
            Edges.due(27, x.mix(999, 1, 0));
            Edges.due(0, x.mix(999, 1, 1));
        });
        Edges.edge(19, "how much OFF (what 0); 1 and c: how many of COLOUR c. BAD", () -> {
            Edges.bounds(0, 4, Edges::busy, (x, v) -> x.mix(0, 1, v));
            Edges.bounds(0, 5, () -> Edges.of(FIVE), (x, v) -> x.mix(0, 6, v));
            Edges.bounds(0, 0, HueLease::new, (x, v) -> x.mix(0, 1, v));
            HueLease x = Edges.of(FIVE);
            for (int what = 0; what <= 5; what++) {
                Edges.due(what == 5 ? 6 : 0, x.mix(0, 6, what));
            }
        });
        Edges.edge(19, "NONE: there are not so many DROPS.", () -> {
            HueLease x = Edges.of("plain 1 1 1 1;lasting 2 2 2 0;royal 3 3 3 2;one 9 9;lent 0 1 9;");
            int[] all = {0, 1, 0, 2};
            for (int what = 0; what <= 3; what++) {
                Edges.due(all[what], x.mix(222, 3, what));
                Edges.due(NONE, x.mix(222, 4, what));
                Edges.due(NONE, x.mix(222, 6, what));
            }
            Edges.due(NONE, new HueLease().mix(0, 1, 0));
            Edges.due(NONE, Edges.of("plain 1 1 1 0;").mix(111, 1, 0));
            Edges.due(NONE, Edges.of("plain 1 1 1 5;").mix(111, 6, 1));
            Edges.due(0, Edges.of("plain 1 1 1 6;").mix(111, 6, 0));
        });
        Edges.edge(19, "the first that fits", () -> {
            HueLease x = Edges.of("plain 1 1 1 0;");
            Edges.due(NONE, x.mix(0, 6, 1));
            Edges.due(BAD, x.mix(0, 6, 2));
            Edges.due(BAD, x.mix(0, 7, 0));
            Edges.due(BAD, x.mix(1000, 6, 0));
        });
    }

    static void ofSeveralMixes() {
        Edges.edge(19, "of several those with the fewest of COLOUR 0, then with the fewest of COLOUR 1, and so on", () -> {
            HueLease x = Edges.of("plain5 5 5 9;lasting5 5 5 9;royal5 5 5 9;fugitive5 5 5 9;plain5 5 5 9;");
            int[][] want = {{9, 9, 9, 9, 9, 6}, {9, 9, 9, 9, 2, 2}, {9, 9, 9, 1, 2, 2}, {9, 9, 2, 1, 2, 2}, {9, 0, 2, 1, 2, 2}};
            int[][] taken = {{0, 0, 0, 0, 6}, {0, 0, 0, 4, 2}, {0, 0, 3, 1, 2}, {0, 1, 2, 1, 2}, {1, 0, 2, 1, 2}};
            for (int i = 0; i < want.length; i++) {
                for (int c = 0; c < 5; c++) {
                    x.alter(c, 4, want[i][c]);
                }
                Edges.due(0, x.mix(555, 6, 0));
                for (int c = 0; c < 5; c++) {
                    Edges.due(taken[i][c], x.mix(555, 6, 1 + c));
                }
            }
        });
    }

    static void cheap() {
        Edges.edge(20, "The least RENT in a DAY of n DROPS (1 to 6) from the VATS", () -> {
            Edges.bounds(1, 6, Edges::busy, (x, v) -> x.cheap(500, 27, v));
            HueLease x = Edges.of("royal 1 1 1 9;plain 1 1 1 9;fugitive 1 1 1 2;");
            Edges.due(1, x.cheap(111, 0, 1));
            Edges.due(2, x.cheap(111, 0, 2));
            Edges.due(4, x.cheap(111, 0, 3));
            Edges.due(10, x.cheap(111, 0, 6));
            Edges.due(36, Edges.of("royal 1 1 1 6;").cheap(111, 0, 6));
        });
        Edges.edge(20, "whose HUE is d (0 to 27) or less OFF a HUE.", () -> {
            Edges.bounds(0, 27, Edges::busy, (x, v) -> x.cheap(500, v, 1));
            Edges.bounds(0, 999, Edges::busy, (x, v) -> x.cheap(v, 27, 1));
            HueLease x = Edges.of("royal 0 0 0 9;plain 4 0 0 9;");
            Edges.due(6, x.cheap(0, 0, 1));
            Edges.due(6, x.cheap(0, 3, 1));
            Edges.due(2, x.cheap(0, 4, 1));
            Edges.due(2, x.cheap(999, 27, 1));
            HueLease far = Edges.of("plain 0 0 0 9;");
            Edges.due(NONE, far.cheap(999, 26, 6));
            Edges.due(12, far.cheap(999, 27, 6));
        });
        Edges.edge(20, "BAD; NONE: of none.", () -> {
            Edges.leavesAll(NONE, HueLease::new, x -> x.cheap(0, 27, 1));
            HueLease x = Edges.of("plain 1 1 1 2;royal 1 1 1 1;");
            Edges.due(10, x.cheap(111, 0, 3));
            Edges.due(NONE, x.cheap(111, 27, 4));
            Edges.due(NONE, x.cheap(112, 0, 3));
            Edges.due(10, x.cheap(112, 1, 3));
            Edges.due(BAD, x.cheap(111, 28, 4));
            Edges.due(BAD, x.cheap(1000, 27, 4));
            Edges.due(BAD, x.cheap(111, 27, 7));
        });
    }

    static HueLease lasting(int vat, int purse, int held) {
        HueLease x = Edges.of("lasting 1 1 1 " + vat + ";one 0 0;lent 0 0 " + held + ";");
        x.pay(0, 0, purse);
        return x;
    }

    static void more() {
        Edges.edge(21, "The most DROPS of a COLOUR (0 on, as far as lend() would)", () -> {
            Edges.due(0, lasting(0, 999, 0).more(0, 0));
            Edges.due(1, lasting(1, 999, 0).more(0, 0));
            Edges.due(20, lasting(20, 999, 0).more(0, 0));
            // They are taken from him in any case: he may have as many as lend() gives.
            Edges.due(98, lasting(99, 0, 1).more(0, 0));
            Edges.due(97, lasting(97, 0, 1).more(0, 0));
            Edges.due(1, lasting(99, 0, 98).more(0, 0));
            Edges.due(0, lasting(99, 0, 99).more(0, 0));
            HueLease rich = Edges.of("fugitive 1 1 1 99;one 0 99;");
            rich.pay(0, 0, 999);
            Edges.due(99, rich.more(0, 0));
            rich.lend(0, 0, 90);
            rich.alter(0, 4, 99);
            Edges.due(9, rich.more(0, 0));
        });
        Edges.edge(21, "so that there are no more SEIZURES in 10 DAYS than as it is.", () -> {
            Edges.due(0, lasting(99, 29, 0).more(0, 0));
            Edges.due(1, lasting(99, 30, 0).more(0, 0));
            Edges.due(1, lasting(99, 59, 0).more(0, 0));
            Edges.due(33, lasting(99, 999, 0).more(0, 0));
            Edges.due(32, lasting(99, 989, 0).more(0, 0));
            Edges.due(32, lasting(99, 999, 1).more(0, 0));
            // Seizures that have been do not count.
            HueLease x = lasting(9, 0, 5);
            x.days(1);
            Edges.due(0, x.more(0, 0));
            // Both colours are taken from him on the sixth day; if the first is taken at once he keeps the other: fewer will do.
            HueLease fewer = Edges.of("lasting 1 1 1 20;lasting 1 1 1 9;one 30 0;lent 0 0 1;lent 0 1 1;");
            Edges.due(2, fewer.runs(10, 1));
            Edges.due(20, fewer.more(0, 0));
            Edges.due(20, fewer.lend(0, 0, 20) - 1);
            Edges.due(1, fewer.runs(10, 1));
            // By one drop there is a seizure more, by two or more there is none.
            int[][] mosts = {{0, 0}, {1, 0}, {2, 2}, {3, 3}, {99, 98}};
            for (int[] m : mosts) {
                HueLease gap = Edges.of("lasting 1 1 1 " + m[0] + ";lasting 1 1 1 9;one 3 3;lent 0 0 1;lent 0 1 1;");
                Edges.due(1, gap.runs(10, 1));
                Edges.due(m[1], gap.more(0, 0));
            }
        });
        Edges.edge(21, "than as it is. BAD.", () -> {
            Edges.bounds(0, 1, Edges::busy, (x, v) -> x.more(v, 0));
            Edges.bounds(0, 3, Edges::busy, (x, v) -> x.more(0, v));
            Edges.bounds(0, 3, Edges::fullest, (x, v) -> x.more(v, 4));
            Edges.bounds(0, 4, Edges::fullest, (x, v) -> x.more(3, v));
        });
    }

    static void swap() {
        Edges.edge(22, "so that fewest SEIZURES are in 20 DAYS, fewer than as it is", () -> {
            Edges.due(1, Edges.of("lasting 1 1 1 9;one 0 0;one 60 0;lent 0 0 1;").swap(0));
            Edges.due(NONE, Edges.of("lasting 1 1 1 9;one 0 0;one 59 0;lent 0 0 1;").swap(0));
            Edges.due(NONE, Edges.of("lasting 1 1 1 9;one 57 0;one 59 0;lent 0 0 1;").swap(1));
            Edges.due(NONE, Edges.of("lasting 1 1 1 9;one 60 0;one 99 0;lent 0 0 1;").swap(0));
            Edges.due(1, Edges.of("lasting 1 1 1 9;one 59 0;one 60 0;lent 0 0 1;").swap(0));
        });
        Edges.edge(22, "10 times the lesser and the greater, of several the least (what 0), how many (1).", () -> {
            String drop = "lasting 1 1 1 9;";
            Edges.due(1, Edges.of(drop + "one 99 0;one 0 0;lent 1 0 1;").swap(0));
            Edges.due(2, Edges.of(drop + "one 0 0;one 0 0;one 99 0;one 99 0;lent 0 0 1;").swap(0));
            Edges.due(3, Edges.of(drop + "one 0 0;one 0 0;one 0 0;one 99 0;lent 0 0 1;").swap(0));
            Edges.due(12, Edges.of(drop + "one 0 0;one 0 0;one 99 0;one 99 0;lent 1 0 1;").swap(0));
            Edges.due(23, Edges.of(drop + "one 0 0;one 0 0;one 99 0;one 0 0;lent 3 0 1;").swap(0));
            Edges.due(0, Edges.of(drop + "one 0 0;one 0 0;one 99 0;one 0 0;lent 3 0 1;").swap(1));
            // Two poor ones, one of them with two colours: he comes first.
            HueLease x = Edges.of("lasting1 1 1 9;royal1 1 1 9;one 0 0;one 0 0;one 99 99;lent 0 0 1;lent 1 0 1;lent 1 1 1;");
            Edges.due(12, x.swap(0));
            Edges.due(1, x.swap(1));
            // Seizures that have been do not count.
            HueLease y = Edges.of(drop + "one 0 0;one 99 99;lent 0 0 5;");
            y.days(1);
            y.lend(0, 0, 5);
            Edges.due(1, y.rule(3));
            Edges.due(1, y.swap(0));
            Edges.due(0, y.swap(1));
        });
        Edges.edge(22, "BAD; NONE: by none.", () -> {
            Edges.bounds(0, 1, Edges::busy, HueLease::swap);
            Edges.bounds(0, 1, HueLease::new, HueLease::swap);
            for (int what = 0; what <= 1; what++) {
                Edges.due(NONE, new HueLease().swap(what));
                Edges.due(NONE, Edges.of("lasting 1 1 1 9;").swap(what));
                Edges.due(NONE, Edges.of("one 1 1;one 1 1;").swap(what));
                Edges.due(NONE, Edges.of("lasting 1 1 1 9;one 0 0;lent 0 0 1;").swap(what));
                Edges.due(NONE, Edges.of("lasting 1 1 1 9;one 0 0;one 0 0;lent 0 0 1;").swap(what));
            }
            Edges.leavesAll(NONE, Edges::busy, x -> x.swap(0));
        });
    }

    static HueLease royalAndLasting(int purse) {
        HueLease x = Edges.of("royal 1 1 1 9;lasting 1 1 1 9;one 0 0;lent 0 0 1;lent 0 1 2;");
        x.pay(0, 0, purse);
        return x;
    }

    static void shed() {
        Edges.edge(23, "so that he HOLDS most DROPS behind 20 DAYS, more than as it is", () -> {
            // Twelve a day are due: just enough for 20 days, and one less.
            Edges.due(NONE, royalAndLasting(240).shed(0, 0));
            Edges.due(NONE, royalAndLasting(240).shed(0, 1));
            Edges.due(0, royalAndLasting(239).shed(0, 0));
            Edges.due(2, royalAndLasting(239).shed(0, 1));
            // Six a day are due for the two lasting drops alone.
            Edges.due(0, royalAndLasting(120).shed(0, 0));
            // With 119 he would keep either of them for 19 days only, and none is left.
            Edges.due(NONE, royalAndLasting(119).shed(0, 0));
        });
        Edges.edge(23, "of several the first (what 0), how many (1).", () -> {
            HueLease x = Edges.of("royal1 1 1 9;royal1 1 1 9;lasting1 1 1 9;one 0 12;lent 0 0 1;lent 0 1 1;lent 0 2 2;");
            Edges.due(0, x.shed(0, 0));
            Edges.due(3, x.shed(0, 1));
            // His last colour, the fifth, stands in the way of nothing; the fourth does.
            HueLease y = Edges.of("plain1 1 1 9;".repeat(3) + "royal1 1 1 9;lasting1 1 1 9;one 0 8;lent 0 3 1;lent 0 4 2;");
            Edges.due(3, y.shed(0, 0));
            Edges.due(2, y.shed(0, 1));
        });
        Edges.edge(23, "BAD; NONE: none.", () -> {
            Edges.bounds(0, 1, Edges::busy, (x, v) -> x.shed(v, 0));
            Edges.bounds(0, 1, Edges::busy, (x, v) -> x.shed(0, v));
            Edges.bounds(0, 3, Edges::fullest, (x, v) -> x.shed(v, 1));
            for (int what = 0; what <= 1; what++) {
                Edges.due(NONE, Edges.of("one 1 1;").shed(0, what));
                Edges.due(NONE, Edges.of("lasting 1 1 1 9;one 1 1;").shed(0, what));
                Edges.due(NONE, Edges.of("lasting 1 1 1 9;one 1 1;lent 0 0 1;").shed(0, what));
                Edges.due(NONE, Edges.of("lasting 1 1 1 9;one 99 99;lent 0 0 1;").shed(0, what));
            }
            Edges.leavesAll(NONE, Edges::busy, x -> x.shed(0, 0));
        });
    }

    static void need() {
        Edges.edge(24, "The least that a ONE must EARN (0 to 99)", () -> {
            Edges.due(0, lasting(9, 0, 0).need(0, 60));
            Edges.due(0, lasting(9, 180, 1).need(0, 60));
            Edges.due(1, lasting(9, 179, 1).need(0, 60));
            Edges.due(99, lasting(9, 0, 33).need(0, 60));
            Edges.due(99, lasting(9, 3, 34).need(0, 1));
            Edges.due(98, lasting(9, 4, 34).need(0, 1));
            // What he earns now is of no matter, and stays.
            HueLease x = lasting(9, 0, 33);
            x.pay(0, 1, 50);
            Edges.due(99, x.need(0, 1));
            Edges.due(50, x.one(0, 1));
        });
        Edges.edge(24, "so that there is no SEIZURE of his in n DAYS (0 to 60).", () -> {
            Edges.bounds(0, 60, Edges::busy, (x, v) -> x.need(0, v));
            Edges.due(0, lasting(9, 0, 99).need(0, 0));
            Edges.due(3, lasting(9, 59, 1).need(0, 60));
            Edges.due(2, lasting(9, 59, 1).need(0, 59));
            Edges.due(2, lasting(9, 60, 1).need(0, 60));
            // Of three plain drops one fades a day: six, four and two are due.
            HueLease plain = Edges.of("plain 1 1 1 9;one 0 0;lent 0 0 3;");
            Edges.due(6, plain.need(0, 60));
            plain.pay(0, 0, 4);
            Edges.due(2, plain.need(0, 1));
            Edges.due(3, plain.need(0, 2));
            Edges.due(3, plain.need(0, 60));
            // Another's seizures are not his.
            Edges.due(0, Edges.of("lasting 1 1 1 9;one 0 0;one 0 0;lent 0 0 9;").need(1, 60));
            HueLease x = lasting(9, 0, 5);
            x.days(1);
            Edges.due(0, x.need(0, 60));
        });
        Edges.edge(24, "BAD; NONE: by none.", () -> {
            Edges.bounds(0, 1, Edges::busy, (x, v) -> x.need(v, 60));
            Edges.bounds(0, 3, Edges::fullest, (x, v) -> x.need(v, 60));
            Edges.due(NONE, lasting(9, 0, 34).need(0, 1));
            Edges.due(NONE, lasting(9, 2, 34).need(0, 1));
            Edges.due(NONE, lasting(9, 3, 34).need(0, 2));
            Edges.due(NONE, Edges.fullest().need(3, 1));
            Edges.due(0, Edges.fullest().need(3, 0));
        });
    }

    static void kind() {
        Edges.edge(25, "by which all HOLD most DROPS behind n DAYS (0 to 60)", () -> {
            Edges.bounds(0, 60, Edges::busy, (x, v) -> x.kind(0, v, 0));
            kindIs(0, 5, lasting(9, 0, 5), 0);
            kindIs(1, 1, lasting(9, 180, 1), 60);
            kindIs(0, 0, lasting(9, 179, 1), 60);
            kindIs(1, 1, lasting(9, 179, 1), 59);
        });
        Edges.edge(25, "of several the first (what 0), how many (1).", () -> {
            kindIs(0, 0, Edges.of("fugitive 1 1 1 9;"), 60);
            kindIs(0, 0, Edges.of("fugitive 1 1 1 9;one 0 0;lent 0 0 9;"), 1);
            kindIs(0, 9, Edges.of("fugitive 1 1 1 9;one 0 0;lent 0 0 9;"), 0);
            kindIs(1, 9, Edges.of("fugitive 1 1 1 9;one 99 99;lent 0 0 9;"), 1);
            // A royal drop that he can not pay leaves him enough for the others.
            kindIs(2, 2, Edges.of("plain 1 1 1 9;fugitive 1 1 1 9;one 0 5;lent 0 0 1;lent 0 1 5;"), 1);
            kindIs(3, 6, Edges.of("plain 1 1 1 9;one 0 9;lent 0 0 9;"), 1);
        });
        Edges.edge(25, "how many (1). BAD.", () -> {
            Edges.bounds(0, 3, Edges::busy, (x, v) -> x.kind(v, 1, 0));
            Edges.bounds(0, 1, Edges::busy, (x, v) -> x.kind(0, 1, v));
            Edges.bounds(0, 4, Edges::fullest, (x, v) -> x.kind(v, 60, 1));
            Edges.due(BAD, Edges.of("one 1 1;").kind(0, 0, 0));
        });
    }

    static void kindIs(int kind, int drops, HueLease x, int n) {
        Edges.due(kind, x.kind(0, n, 0));
        Edges.due(drops, x.kind(0, n, 1));
    }
}
