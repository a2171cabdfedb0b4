/** Boundary cases of promises 6 to 14: what there is, and what is changed. */
final class StateEdges {
    static final int BAD = -1, STATE = -2;
    static final String[] KINDS = {"plain", "lasting", "royal", "fugitive"};

    private StateEdges() {
    }

    static void run() {
        rule();
        colour();
        one();
        hues();
        holds();
        off();
        alter();
        pay();
        lend();
        bring();
    }

    static void rule() {
        Edges.edge(6, "5 DROPS that all HOLD. BAD.", () -> Edges.bounds(0, 5, Edges::busy, HueLease::rule));
        Edges.edge(6, "4 DROPS in all VATS, 5 DROPS that all HOLD.", () -> {
            HueLease full = Edges.fullest();
            Edges.due(5, full.rule(0));
            Edges.due(4, full.rule(1));
            Edges.due(5 * 99, full.rule(4));
            Edges.due(4 * 5 * 99, full.rule(5));
            Edges.due(0, new HueLease().rule(4));
            Edges.due(0, new HueLease().rule(5));
            HueLease poor = Edges.of("plain 1 1 1 0;one 0 0;");
            Edges.due(0, poor.rule(4));
            Edges.due(0, poor.rule(5));
        });
        Edges.edge(6, "2 DAY, 3 SEIZURES", () -> {
            HueLease x = Edges.fullest();
            x.days(1);
            Edges.due(1, x.rule(2));
            // 594 are due for each colour: of 999 each pays one, four are taken from him.
            Edges.due(16, x.rule(3));
            x.days(0);
            Edges.due(1, x.rule(2));
            Edges.due(16, x.rule(3));
        });
    }

    static void colour() {
        Edges.edge(7, "6 DROPS of it that all HOLD. BAD.", () -> Edges.bounds(0, 6, Edges::busy, (x, v) -> x.colour(3, v)));
        Edges.edge(7, "Of a COLOUR", () -> {
            Edges.bounds(0, 3, Edges::busy, (x, v) -> x.colour(v, 0));
            Edges.bounds(0, 4, Edges::fullest, (x, v) -> x.colour(v, 6));
        });
        Edges.edge(7, "there is no such COLOUR, ONE, IMAGE, SHEET", () -> {
            HueLease x = Edges.of("one 1 1;");
            Edges.due(BAD, x.colour(0, 0));
            Edges.due(BAD, x.holds(0, 0));
            HueLease y = Edges.of("plain 1 1 1 1;");
            Edges.due(0, y.colour(0, 0));
            Edges.due(0, y.colour(0, 6));
            Edges.due(BAD, y.colour(1, 0));
            Edges.due(BAD, y.one(0, 0));
            Edges.due(BAD, y.holds(0, 0));
        });
        Edges.edge(7, "6 DROPS of it that all HOLD.", () -> {
            HueLease x = Edges.fullest();
            for (int c = 0; c < 5; c++) {
                Edges.due(99, x.colour(c, 4));
                Edges.due(4 * 99, x.colour(c, 6));
            }
            Edges.due(0, Edges.of("plain 1 1 1 1;one 1 1;").colour(0, 6));
            HueLease two = Edges.of("plain1 1 1 1;".repeat(5) + "one 1 1;".repeat(4) + "lent 0 0 99;lent 3 4 1;lent 3 0 2;");
            int[] held = {101, 0, 0, 0, 1};
            for (int c = 0; c < 5; c++) {
                Edges.due(held[c], two.colour(c, 6));
            }
        });
        Edges.edge(7, "0 KIND, 1 to 3 its LIGHTS, 4 its VAT", () -> {
            HueLease x = Edges.of("plain 1 1 1 1;fugitive 4 5 6 78;");
            int[] want = {3, 4, 5, 6, 78};
            for (int what = 0; what <= 4; what++) {
                Edges.due(want[what], x.colour(1, what));
            }
        });
        Edges.edge(7, "What is numbered has its numbers from 0 on, as it comes, where nothing else is told.", () -> {
            HueLease x = Edges.of("lent 1 1 7;royal 1 2 3 4;one 5 6;one 7 8;plain 9 8 7 6;");
            Edges.due(BAD, x.colour(-1, 0));
            Edges.due(2, x.colour(0, 0));
            Edges.due(0, x.colour(1, 0));
            Edges.due(BAD, x.colour(2, 0));
            Edges.due(BAD, x.one(-1, 0));
            Edges.due(5, x.one(0, 0));
            Edges.due(7, x.one(1, 0));
            Edges.due(BAD, x.one(2, 0));
            Edges.due(7, x.holds(1, 1));
        });
        Edges.edge(7, "RENT by KIND, of a DROP in a DAY: plain 2; lasting 1 more than a plain one; royal twice that of a lasting one;"
            + " fugitive half of that of a plain one.", () -> {
            int[] rents = {2, 3, 6, 1};
            for (int kind = 0; kind < 4; kind++) {
                Edges.due(rents[kind], Edges.of(KINDS[kind] + " 1 1 1 1;").colour(0, 5));
            }
        });
    }

    static void one() {
        Edges.edge(8, "4 RENT of all of them. BAD.", () -> Edges.bounds(0, 4, Edges::busy, (x, v) -> x.one(1, v)));
        Edges.edge(8, "Of a ONE", () -> {
            Edges.bounds(0, 1, Edges::busy, (x, v) -> x.one(v, 0));
            Edges.bounds(0, 3, Edges::fullest, (x, v) -> x.one(v, 4));
        });
        Edges.edge(8, "3 DROPS that he HOLDS, 4 RENT of all of them.", () -> {
            HueLease full = Edges.fullest();
            for (int p = 0; p < 4; p++) {
                Edges.due(999, full.one(p, 0));
                Edges.due(99, full.one(p, 1));
                Edges.due(999, full.one(p, 2));
                Edges.due(5 * 99, full.one(p, 3));
                Edges.due(5 * 99 * 6, full.one(p, 4));
            }
            HueLease poor = Edges.of("royal 9 9 9 9;one 0 0;");
            for (int what = 0; what <= 4; what++) {
                Edges.due(0, poor.one(0, what));
            }
            // Only what he holds himself counts.
            HueLease four = Edges.of("plain1 1 1 1;".repeat(4) + "royal1 1 1 9;one 1 1;one 1 1;one 1 1;one 1 1;lent 0 0 1;lent 3 4 99;");
            int[] drops = {1, 0, 0, 99};
            int[] rents = {2, 0, 0, 6 * 99};
            for (int p = 0; p < 4; p++) {
                Edges.due(drops[p], four.one(p, 3));
                Edges.due(rents[p], four.one(p, 4));
            }
        });
    }

    static void hues() {
        Edges.edge(8, "0 of none.", () -> {
            HueLease x = Edges.of("plain 9 9 9 9;one 1 1;lent 0 0 0;");
            Edges.due(0, x.one(0, 2));
            x.lend(0, 0, 1);
            Edges.due(999, x.one(0, 2));
            x.bring(0, 0, 1);
            Edges.due(0, x.one(0, 2));
            Edges.due(0, Edges.of("one 1 1;").one(0, 2));
        });
        Edges.edge(8, "A HUE: a number, 100 times the first LIGHT, 10 times the second and the third.", () -> {
            for (int hue : new int[] {0, 1, 9, 10, 90, 99, 100, 123, 321, 900, 909, 999}) {
                HueLease x = Edges.of("plain " + hue / 100 + " " + hue / 10 % 10 + " " + hue % 10 + " 9;one 1 1;lent 0 0 99;");
                Edges.due(hue, x.one(0, 2));
                Edges.due(0, x.off(0, hue));
            }
        });
        Edges.edge(8, "each LIGHT is that of all DROPS, summed, by how many DROPS there are (down)", () -> {
            HueLease x = Edges.of("plain 9 1 0 99;royal 8 0 9 99;one 1 1;lent 0 0 1;lent 0 1 1;");
            // 17, 1 and 9 by 2.
            Edges.due(804, x.one(0, 2));
            x.lend(0, 0, 1);
            // 26, 2 and 9 by 3.
            Edges.due(803, x.one(0, 2));
            x.lend(0, 0, 96);
            // 98 and 1: 890, 98 and 9 by 99.
            Edges.due(800, x.one(0, 2));
            x.bring(0, 1, 1);
            Edges.due(910, x.one(0, 2));
            Edges.due(0, Edges.of("plain 1 1 1 9;royal 0 0 0 9;one 1 1;lent 0 0 98;lent 0 1 1;").one(0, 2));
        });
    }

    static void holds() {
        Edges.edge(9, "DROPS of a COLOUR that a ONE HOLDS. BAD.", () -> {
            Edges.bounds(0, 1, Edges::busy, (x, v) -> x.holds(v, 3));
            Edges.bounds(0, 3, Edges::busy, (x, v) -> x.holds(1, v));
            Edges.bounds(0, 3, Edges::fullest, (x, v) -> x.holds(v, 4));
            Edges.bounds(0, 4, Edges::fullest, (x, v) -> x.holds(3, v));
        });
        Edges.edge(9, "DROPS of a COLOUR that a ONE HOLDS.", () -> {
            HueLease x = Edges.of("plain 1 1 1 1;royal 1 1 1 1;one 1 1;one 1 1;lent 0 0 99;lent 1 1 1;");
            Edges.due(99, x.holds(0, 0));
            Edges.due(0, x.holds(0, 1));
            Edges.due(0, x.holds(1, 0));
            Edges.due(1, x.holds(1, 1));
        });
    }

    static void off() {
        Edges.edge(10, "OFF of HUE of a ONE and a HUE (0 to 999).", () -> Edges.bounds(0, 999, Edges::busy, (x, v) -> x.off(0, v)));
        Edges.edge(10, "HUE (0 to 999). BAD.", () -> {
            Edges.bounds(0, 1, Edges::busy, (x, v) -> x.off(v, 0));
            Edges.bounds(0, 3, Edges::fullest, (x, v) -> x.off(v, 999));
        });
        Edges.edge(10, "OFF of two HUES: by how much their LIGHTS differ, summed.", () -> {
            HueLease none = Edges.of("one 1 1;");
            Edges.due(0, none.off(0, 0));
            Edges.due(27, none.off(0, 999));
            Edges.due(9, none.off(0, 9));
            Edges.due(1, none.off(0, 10));
            HueLease bright = Edges.fullest();
            Edges.due(0, bright.off(3, 999));
            Edges.due(27, bright.off(3, 0));
            Edges.due(18, bright.off(3, 90));
            // A light more and a light less do not make up for one another.
            Edges.due(19, Edges.of("plain 0 9 9 9;one 1 1;lent 0 0 1;").off(0, 100));
            Edges.due(2, Edges.of("plain 4 5 6 9;one 1 1;lent 0 0 1;").off(0, 546));
        });
    }

    static void alter() {
        Edges.edge(11, "KIND, LIGHTS, VAT (what 0 to 4) of a COLOUR becomes v", () -> {
            Edges.bounds(0, 4, Edges::busy, (x, v) -> x.alter(0, v, 0));
            Edges.bounds(0, 4, Edges::fullest, (x, v) -> x.alter(4, v, 3));
        });
        Edges.edge(11, "each of a KIND (0 plain, 1 lasting, 2 royal, 3 fugitive)", () ->
            Edges.bounds(0, 3, Edges::busy, (x, v) -> x.alter(1, 0, v)));
        Edges.edge(11, "of three LIGHTS (0 to 9 each)", () -> {
            for (int light = 1; light <= 3; light++) {
                int what = light;
                Edges.bounds(0, 9, Edges::busy, (x, v) -> x.alter(2, what, v));
            }
        });
        Edges.edge(11, "with a VAT of so many DROPS (0 to 99)", () -> Edges.bounds(0, 99, Edges::busy, (x, v) -> x.alter(3, 4, v)));
        Edges.edge(11, "what it was. BAD.", () -> {
            Edges.bounds(0, 3, Edges::busy, (x, v) -> x.alter(v, 0, 0));
            HueLease x = Edges.busy();
            int[] was = {3, 9, 9, 9, 53};
            int[] most = {3, 9, 9, 9, 99};
            for (int what = 0; what <= 4; what++) {
                Edges.due(was[what], x.alter(3, what, 0));
                Edges.due(0, x.alter(3, what, most[what]));
                Edges.due(most[what], x.colour(3, what));
                Edges.due(most[what], x.alter(3, what, most[what]));
            }
        });
    }

    static void pay() {
        Edges.edge(12, "PURSE (0 to 999), EARNS (what 0, 1) of a ONE becomes v", () -> {
            Edges.bounds(0, 999, Edges::busy, (x, v) -> x.pay(0, 0, v));
            Edges.bounds(0, 1, Edges::busy, (x, v) -> x.pay(0, v, 0));
        });
        Edges.edge(12, "who EARNS so much a DAY (0 to 99)", () -> Edges.bounds(0, 99, Edges::busy, (x, v) -> x.pay(1, 1, v)));
        Edges.edge(12, "what it was. BAD.", () -> {
            Edges.bounds(0, 1, Edges::busy, (x, v) -> x.pay(v, 0, 0));
            Edges.bounds(0, 3, Edges::fullest, (x, v) -> x.pay(v, 1, 99));
            HueLease x = Edges.busy();
            Edges.due(42, x.pay(0, 0, 999));
            Edges.due(999, x.pay(0, 0, 0));
            Edges.due(0, x.pay(0, 0, 0));
            Edges.due(9, x.pay(1, 1, 99));
            Edges.due(99, x.pay(1, 1, 0));
            Edges.due(0, x.one(1, 1));
            Edges.due(20, x.one(0, 1));
        });
    }

    static HueLease plenty() {
        return Edges.of("plain 1 1 1 99;one 1 1;");
    }

    static void lend() {
        Edges.edge(13, "n DROPS (1 to 99) of a COLOUR go from its VAT to a ONE", () -> {
            Edges.bounds(1, 99, Edges::busy, (x, v) -> x.lend(0, 1, v));
            Edges.due(1, plenty().lend(0, 0, 1));
            HueLease x = plenty();
            Edges.due(99, x.lend(0, 0, 99));
            Edges.due(0, x.colour(0, 4));
        });
        Edges.edge(13, "how many he HOLDS. BAD", () -> {
            Edges.bounds(0, 1, Edges::busy, (x, v) -> x.lend(v, 0, 1));
            Edges.bounds(0, 3, Edges::busy, (x, v) -> x.lend(1, v, 1));
        });
        Edges.edge(13, "STATE: there are not so many", () -> {
            // Nine are in the vat.
            for (int n : new int[] {10, 11, 99}) {
                Edges.leavesAll(STATE, Edges::busy, x -> x.lend(0, 1, n));
            }
            HueLease x = Edges.busy();
            Edges.due(9, x.lend(0, 1, 9));
            Edges.due(0, x.colour(1, 4));
            Edges.due(STATE, x.lend(0, 1, 1));
            Edges.due(STATE, x.lend(1, 1, 1));
        });
        Edges.edge(13, "he would HOLD above 99.", () -> {
            Edges.leavesAll(STATE, Edges::fullest, x -> x.lend(0, 0, 1));
            Edges.leavesAll(STATE, Edges::fullest, x -> x.lend(3, 4, 99));
            HueLease x = Edges.of("plain 1 1 1 99;one 1 1;one 1 1;lent 0 0 90;");
            Edges.due(STATE, x.lend(0, 0, 10));
            Edges.due(99, x.lend(0, 0, 9));
            Edges.due(STATE, x.lend(0, 0, 1));
            Edges.due(90, x.lend(1, 0, 90));
            Edges.due(STATE, x.lend(1, 0, 1));
        });
        Edges.edge(13, "the first that fits", () -> {
            HueLease x = Edges.of("plain 1 1 1 0;one 1 1;lent 0 0 99;");
            Edges.due(STATE, x.lend(0, 0, 99));
            Edges.due(BAD, x.lend(0, 0, 100));
            Edges.due(BAD, x.lend(0, 0, 0));
            Edges.due(BAD, x.lend(1, 0, 1));
            Edges.due(BAD, x.lend(0, 1, 1));
        });
    }

    static void bring() {
        Edges.edge(14, "n DROPS (1 to 99) of a COLOUR go from a ONE", () -> {
            Edges.bounds(1, 99, Edges::busy, (x, v) -> x.bring(0, 0, v));
            HueLease x = Edges.of("plain 1 1 1 0;one 1 1;lent 0 0 99;");
            Edges.due(98, x.bring(0, 0, 1));
            Edges.due(99, x.lend(0, 0, 1));
            Edges.due(0, x.bring(0, 0, 99));
            Edges.due(99, x.colour(0, 4));
        });
        Edges.edge(14, "its VAT (99 at most)", () -> {
            HueLease x = Edges.of("plain 1 1 1 97;one 1 1;lent 0 0 9;");
            Edges.due(8, x.bring(0, 0, 1));
            Edges.due(98, x.colour(0, 4));
            Edges.due(7, x.bring(0, 0, 1));
            Edges.due(99, x.colour(0, 4));
            Edges.due(6, x.bring(0, 0, 1));
            Edges.due(99, x.colour(0, 4));
            x.alter(0, 4, 97);
            Edges.due(1, x.bring(0, 0, 5));
            Edges.due(99, x.colour(0, 4));
            Edges.due(1, x.rule(5));
        });
        Edges.edge(14, "how many he HOLDS. BAD", () -> {
            Edges.bounds(0, 1, Edges::busy, (x, v) -> x.bring(v, 2, 1));
            Edges.bounds(0, 3, Edges::busy, (x, v) -> x.bring(0, v, 1));
        });
        Edges.edge(14, "STATE: he HOLDS fewer.", () -> {
            // He holds five of the first, and none of the second.
            for (int n : new int[] {6, 7, 99}) {
                Edges.leavesAll(STATE, Edges::busy, x -> x.bring(0, 0, n));
            }
            Edges.leavesAll(STATE, Edges::busy, x -> x.bring(0, 1, 1));
            HueLease x = Edges.busy();
            Edges.due(0, x.bring(0, 0, 5));
            Edges.due(STATE, x.bring(0, 0, 1));
        });
        Edges.edge(14, "the first that fits", () -> {
            HueLease x = Edges.of("plain 1 1 1 0;one 1 1;");
            Edges.due(STATE, x.bring(0, 0, 99));
            Edges.due(BAD, x.bring(0, 0, 100));
            Edges.due(BAD, x.bring(0, 0, 0));
            Edges.due(BAD, x.bring(1, 0, 1));
            Edges.due(BAD, x.bring(0, 1, 1));
        });
    }
}
