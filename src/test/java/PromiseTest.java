/** Each promise of the document by answers that were worked out by hand. */
public final class PromiseTest {
    static final int BAD = -1, STATE = -2, FULL = -3, NONE = -4;
    static final int LOW = Integer.MIN_VALUE, HIGH = Integer.MAX_VALUE;

    static final String FOUR = Edges.FOUR;
    static final String THREE_LIGHTS = "plain 9 0 0 2;lasting 0 9 0 2;royal 0 0 9 6;";
    static final String RICH = "plain 9 0 0 9;lasting 0 9 0 9;one 99 99;lent 0 0 4;lent 0 1 1;";

    static int wrong;
    static int asked;
    static int promise;

    public static void main(String[] args) {
        newObject();
        feed();
        end();
        text();
        textTellsAll();
        fault();
        rule();
        colour();
        one();
        holds();
        off();
        alter();
        pay();
        lend();
        bring();
        days();
        daysInOrder();
        runs();
        ahead();
        lasts();
        mix();
        cheap();
        more();
        swap();
        shed();
        need();
        kind();
        luck();
        mean();
        see();
        forget();
        kinds();
        drops();
        ask();
        drift();
        keep();
        back();
        sheet();
        lay();
        read();
        torn();
        count();
        System.out.println(asked + " answers asked, " + wrong + " not as due");
        if (wrong != 0) {
            System.exit(1);
        }
    }

    static void due(long want, long got) {
        asked++;
        if (got != want) {
            wrong++;
            String where = StackWalker.getInstance().walk(s -> s.skip(1).findFirst().get().toString());
            System.out.println("promise " + promise + ": answered " + got + ", due is " + want + " at " + where);
        }
    }

    static HueLease tell(HueLease x, String text) {
        return Edges.tell(x, text);
    }

    static HueLease of(String text) {
        return Edges.of(text);
    }

    static void newObject() {
        promise = 1;
        HueLease x = new HueLease();
        for (int what = 0; what <= 5; what++) {
            due(0, x.rule(what));
            due(what == 3 ? NONE : 0, x.count(what));
        }
        due(0, x.fault());
        due(0, x.torn());
        due(BAD, x.colour(0, 0));
        due(BAD, x.one(0, 0));
        due(STATE, x.back(0));
        due(STATE, x.back(1));
        for (int k = 0; k < 4; k++) {
            due(-11, x.lay(k, 0, 0));
        }
        due(-1, HueLease.BAD);
        due(-2, HueLease.STATE);
        due(-3, HueLease.FULL);
        due(-4, HueLease.NONE);
    }

    static void feed() {
        promise = 2;
        HueLease x = new HueLease();
        due(BAD, x.feed(-1));
        due(BAD, x.feed(128));
        due(BAD, x.feed(LOW));
        due(BAD, x.feed(HIGH));
        due(0, x.count(2));
        due(1, x.feed(0));
        due(2, x.feed(127));
        for (int n = 3; n <= 160; n++) {
            due(n, x.feed(' '));
        }
        due(FULL, x.feed(' '));
        due(BAD, x.feed(128));
        due(160, x.count(2));
    }

    static void end() {
        promise = 3;
        HueLease x = tell(new HueLease(), "one 1 1;one 2 2;x");
        due(BAD, x.end(-1));
        due(BAD, x.end(18));
        due(BAD, x.end(LOW));
        due(17, x.count(2));
        due(17, x.end(17));
        due(17, x.end(8));
        due(BAD, x.end(9));
        due(8, x.count(2));
        due(1, x.text());
        due(0, x.end(0));
        due(BAD, x.end(1));
        tell(x, "abc");
        due(3, x.end(0));
        due(0, x.text());
    }

    static void textIs(String text, int want, int fault) {
        HueLease x = tell(new HueLease(), text);
        due(want, x.text());
        due(fault, x.fault());
        due(0, x.count(2));
    }

    static void text() {
        promise = 4;
        textIs("", 0, 0);
        textIs("   ", 0, 0);
        textIs("one 1 1;", 1, 0);
        textIs("plain1 2 3 4;one5 6;lent0 0 7;", 3, 0);
        textIs("  royal   01 02 3  4  ;  ", 1, 0);
        textIs("lent 0 0 1;plain 1 1 1 1;one 1 1;", 3, 0);
        textIs("one 99 99;plain 9 9 9 99;one 0 0;lent 1 0 99;", 4, 0);
        textIs("one 1,1;", -15, 1);
        textIs("Plain 1 1 1 1;", -10, 1);
        textIs("\tone 1 1;", -10, 1);
        textIs("one 1 1;\n", -18, 1);
        textIs("  \u0000", -12, 1);
        textIs("one 1 `", -16, 1);
        textIs("one 1 {", -16, 1);
        textIs("one 1 /", -16, 1);
        textIs("one 1 :", -16, 1);
        textIs("one 123 1;", -14, 1);
        textIs("one 1 001;", -16, 1);
        textIs("555", -10, 1);
        textIs("one 1 1; 999", -19, 1);
        textIs("plains 1 1 1 1;", -10, 2);
        textIs("plai 1 1 1 1;", -10, 2);
        textIs("slain 1 1 1 1;", -10, 2);
        textIs("plaiz 1 1 1 1;", -10, 2);
        textIs("lost 1 1 1;", -10, 2);
        textIs("oneone 1 1;", -10, 2);
        textIs(" ;", -11, 2);
        textIs("one 1 1;;", -18, 2);
        textIs("5", -10, 2);
        textIs("one 1 1", -17, 2);
        textIs("one 1 1  ", -19, 2);
        textIs("one", -13, 2);
        textIs("plain 1 1 1 one 1;", -22, 2);
        textIs("one 1 1 1;", -18, 2);
        textIs("one 1 1 one", -18, 2);
        textIs("plain 10 1 1 1;", -16, 3);
        textIs("plain 1 10 1 1;", -18, 3);
        textIs("plain 1 1 10 1;", -20, 3);
        textIs("lent 4 0 0;", -15, 3);
        textIs("lent 0 5 0;", -17, 3);
        textIs("plain 1 1 1 9;one 1 1;lent 0 0 0;lent 0 0 1;", -50, 4);
        textIs("lent 3 4 1;lent 3 4 x", -28, 4);
        textIs("lent 3 4 1;lent 3 5 1;", -28, 3);
        String colour = "plain 1 1 1 1;";
        textIs(colour + colour + colour + colour + colour, 5, 0);
        textIs(colour + colour + colour + colour + colour + "royal,", -80, 5);
        textIs("one1 1;one1 1;one1 1;one1 1;", 4, 0);
        textIs("one1 1;one1 1;one1 1;one1 1;one 1 1;", -38, 5);
        textIs("one 1 1;lent 0 0 1;", -29, 6);
        textIs("lent 0 1 0;" + colour + "one 1 1; ", -44, 6);
        textIs("lent 1 0 1;" + colour + "one 1 1;", -43, 6);
        textIs("lent 3 4 1;x", -21, 2);
    }

    static void textTellsAll() {
        promise = 4;
        HueLease x = of(FOUR);
        x.days(5);
        x.see(0, 0, 0);
        x.keep(0);
        x.sheet(0, 0, 7);
        due(-10, tell(x, "blush 1 1 1 1;").text());
        due(5, x.rule(2));
        due(1, x.rule(3));
        due(4, x.rule(0));
        due(1, x.count(0));
        due(1, x.count(1));
        due(2, tell(x, "one 7 8;royal 1 2 3 4;").text());
        int[] rules = {1, 1, 0, 0, 4, 0};
        for (int what = 0; what <= 5; what++) {
            due(rules[what], x.rule(what));
        }
        due(2, x.colour(0, 0));
        due(1, x.colour(0, 1));
        due(2, x.colour(0, 2));
        due(3, x.colour(0, 3));
        due(4, x.colour(0, 4));
        due(7, x.one(0, 0));
        due(8, x.one(0, 1));
        due(0, x.holds(0, 0));
        due(0, x.count(0));
        due(0, x.count(1));
        due(STATE, x.back(0));
        due(7, x.count(3));
        due(0, x.text());
        due(0, x.rule(0));
        due(0, x.rule(1));
        due(0, x.count(4));
    }

    static void fault() {
        promise = 5;
        HueLease x = new HueLease();
        tell(x, "one 1 1;one").text();
        due(2, x.fault());
        due(2, x.fault());
        x.feed('x');
        due(2, x.fault());
        x.end(0);
        x.text();
        due(0, x.fault());
        tell(x, "?").text();
        due(1, x.fault());
    }

    static void rule() {
        promise = 6;
        HueLease x = of(FOUR);
        int[] want = {4, 2, 0, 0, 93, 22};
        for (int what = 0; what <= 5; what++) {
            due(want[what], x.rule(what));
        }
        x.days(3);
        due(3, x.rule(2));
        due(1, x.rule(3));
        due(96, x.rule(4));
        due(10, x.rule(5));
        due(BAD, x.rule(-1));
        due(BAD, x.rule(6));
        due(BAD, x.rule(LOW));
        due(BAD, x.rule(HIGH));
    }

    static void colour() {
        promise = 7;
        HueLease x = of(FOUR);
        int[][] want = {{0, 9, 1, 0, 30, 2, 8}, {1, 0, 7, 8, 9, 3, 3}, {2, 6, 0, 9, 4, 6, 2}, {3, 9, 9, 9, 50, 1, 9}};
        for (int c = 0; c < 4; c++) {
            for (int what = 0; what <= 6; what++) {
                due(want[c][what], x.colour(c, what));
            }
        }
        due(BAD, x.colour(-1, 0));
        due(BAD, x.colour(4, 0));
        due(BAD, x.colour(0, -1));
        due(BAD, x.colour(0, 7));
        due(BAD, x.colour(LOW, LOW));
        due(BAD, x.colour(HIGH, 0));
        x.lend(1, 0, 5);
        due(13, x.colour(0, 6));
    }

    static void one() {
        promise = 8;
        HueLease x = of(FOUR);
        int[][] want = {{60, 20, 801, 10, 28}, {15, 9, 688, 12, 18}};
        for (int p = 0; p < 2; p++) {
            for (int what = 0; what <= 4; what++) {
                due(want[p][what], x.one(p, what));
            }
        }
        due(BAD, x.one(-1, 0));
        due(BAD, x.one(2, 0));
        due(BAD, x.one(0, -1));
        due(BAD, x.one(0, 5));
        due(BAD, x.one(HIGH, 0));
        HueLease y = of("plain 9 9 9 9;one 1 1;");
        due(0, y.one(0, 2));
        due(0, y.one(0, 3));
        due(0, y.one(0, 4));
        y.lend(0, 0, 1);
        due(999, y.one(0, 2));
    }

    static void holds() {
        promise = 9;
        HueLease x = of(FOUR);
        int[][] want = {{8, 0, 2, 0}, {0, 3, 0, 9}};
        for (int p = 0; p < 2; p++) {
            for (int c = 0; c < 4; c++) {
                due(want[p][c], x.holds(p, c));
            }
        }
        due(BAD, x.holds(-1, 0));
        due(BAD, x.holds(2, 0));
        due(BAD, x.holds(0, -1));
        due(BAD, x.holds(0, 4));
        due(BAD, x.holds(HIGH, LOW));
    }

    static void off() {
        promise = 10;
        HueLease x = of(FOUR);
        due(0, x.off(0, 801));
        due(9, x.off(0, 0));
        due(18, x.off(0, 999));
        due(7, x.off(1, 179));
        due(BAD, x.off(0, -1));
        due(BAD, x.off(0, 1000));
        due(BAD, x.off(-1, 0));
        due(BAD, x.off(2, 0));
        due(27, of("one 1 1;").off(0, 999));
        due(27, of("plain 9 9 9 9;one 1 1;lent 0 0 1;").off(0, 0));
        due(1, of("plain 0 9 9 9;one 1 1;lent 0 0 1;").off(0, 199));
        due(19, of("plain 0 9 9 9;one 1 1;lent 0 0 1;").off(0, 100));
    }

    static void alter() {
        promise = 11;
        HueLease x = of(FOUR);
        int[] was = {0, 9, 1, 0, 30};
        int[] most = {3, 9, 9, 9, 99};
        for (int what = 0; what <= 4; what++) {
            due(BAD, x.alter(0, what, -1));
            due(BAD, x.alter(0, what, most[what] + 1));
            due(was[what], x.alter(0, what, most[what]));
            due(most[what], x.colour(0, what));
            due(most[what], x.alter(0, what, 0));
            due(0, x.colour(0, what));
        }
        due(BAD, x.alter(0, -1, 0));
        due(BAD, x.alter(0, 5, 0));
        due(BAD, x.alter(-1, 0, 0));
        due(BAD, x.alter(4, 0, 0));
        due(BAD, x.alter(HIGH, 0, 0));
        due(8, x.alter(1, 3, 2));
        due(2, x.colour(1, 3));
        due(6, x.colour(2, 1));
        x.alter(2, 0, 3);
        due(1, x.colour(2, 5));
        due(18, x.one(0, 4));
    }

    static void pay() {
        promise = 12;
        HueLease x = of(FOUR);
        due(60, x.pay(0, 0, 999));
        due(BAD, x.pay(0, 0, 1000));
        due(BAD, x.pay(0, 0, -1));
        due(999, x.pay(0, 0, 0));
        due(0, x.one(0, 0));
        due(20, x.pay(0, 1, 99));
        due(BAD, x.pay(0, 1, 100));
        due(BAD, x.pay(0, 1, -1));
        due(99, x.one(0, 1));
        due(15, x.one(1, 0));
        due(BAD, x.pay(0, 2, 0));
        due(BAD, x.pay(0, -1, 0));
        due(BAD, x.pay(2, 0, 0));
        due(BAD, x.pay(-1, 0, 0));
    }

    static void lend() {
        promise = 13;
        HueLease x = of("plain 1 1 1 50;royal 1 1 1 99;one 1 1;one 1 1;lent 0 0 40;lent 0 1 99;");
        due(BAD, x.lend(0, 0, 0));
        due(BAD, x.lend(0, 0, 100));
        due(BAD, x.lend(0, 0, LOW));
        due(BAD, x.lend(2, 0, 1));
        due(BAD, x.lend(-1, 0, 1));
        due(BAD, x.lend(0, 2, 1));
        due(BAD, x.lend(0, -1, 1));
        due(STATE, x.lend(0, 0, 51));
        due(STATE, x.lend(0, 1, 1));
        due(41, x.lend(0, 0, 1));
        due(90, x.lend(0, 0, 49));
        due(0, x.colour(0, 4));
        due(STATE, x.lend(0, 0, 1));
        due(99, x.lend(1, 1, 99));
        due(0, x.colour(1, 4));
        x.alter(0, 4, 99);
        due(STATE, x.lend(0, 0, 10));
        due(99, x.lend(0, 0, 9));
        due(90, x.colour(0, 4));
    }

    static void bring() {
        promise = 14;
        HueLease x = of("plain 1 1 1 50;royal 1 1 1 95;one 1 1;lent 0 0 40;lent 0 1 99;");
        due(BAD, x.bring(0, 0, 0));
        due(BAD, x.bring(0, 0, 100));
        due(BAD, x.bring(1, 0, 1));
        due(BAD, x.bring(-1, 0, 1));
        due(BAD, x.bring(0, 2, 1));
        due(BAD, x.bring(0, -1, 1));
        due(STATE, x.bring(0, 0, 41));
        due(39, x.bring(0, 0, 1));
        due(51, x.colour(0, 4));
        due(0, x.bring(0, 0, 39));
        due(90, x.colour(0, 4));
        due(STATE, x.bring(0, 0, 1));
        due(95, x.bring(0, 1, 4));
        due(99, x.colour(1, 4));
        due(0, x.bring(0, 1, 95));
        due(99, x.colour(1, 4));
    }

    static void days() {
        promise = 15;
        HueLease x = of(FOUR);
        due(BAD, x.days(-1));
        due(BAD, x.days(31));
        due(BAD, x.days(HIGH));
        due(0, x.days(0));
        due(0, x.rule(2));
        due(0, x.days(1));
        due(52, x.one(0, 0));
        due(7, x.holds(0, 0));
        due(2, x.holds(0, 2));
        due(6, x.one(1, 0));
        due(3, x.holds(1, 1));
        due(6, x.holds(1, 3));
        due(0, x.days(1));
        due(1, x.days(1));
        due(42, x.one(0, 0));
        due(5, x.holds(0, 0));
        due(0, x.one(1, 0));
        due(0, x.holds(1, 3));
        due(3, x.holds(1, 1));
        due(53, x.colour(3, 4));
        due(30, x.colour(0, 4));
        due(1, x.rule(3));
        due(3, x.rule(2));
        for (int i = 0; i < 33; i++) {
            x.days(30);
        }
        due(993, x.rule(2));
        due(FULL, x.days(7));
        due(BAD, x.days(31));
        due(0, x.days(6));
        due(999, x.rule(2));
        due(FULL, x.days(1));
        due(0, x.days(0));
        due(999, x.rule(2));
    }

    static void daysInOrder() {
        promise = 15;
        HueLease x = of("royal 1 1 1 9;fugitive 1 1 1 9;one 6 0;lent 0 0 1;lent 0 1 1;");
        due(1, x.days(1));
        due(1, x.holds(0, 0));
        due(0, x.holds(0, 1));
        HueLease y = of("royal 1 1 1 9;fugitive 1 1 1 9;one 6 0;lent 0 0 2;lent 0 1 6;");
        due(1, y.days(1));
        due(0, y.holds(0, 0));
        due(11, y.colour(0, 4));
        due(3, y.holds(0, 1));
        due(0, y.one(0, 0));
        HueLease z = of("plain 1 1 1 95;fugitive 1 1 1 9;one 0 0;one 99 99;lent 0 0 9;lent 1 1 2;");
        z.pay(1, 0, 950);
        due(1, z.days(1));
        due(99, z.colour(0, 4));
        due(0, z.holds(1, 1));
        due(997, z.one(1, 0));
        due(0, z.days(1));
        due(999, z.one(1, 0));
    }

    static void runs() {
        promise = 16;
        HueLease x = of(FOUR);
        due(22, x.runs(0, 0));
        due(0, x.runs(0, 1));
        due(0, x.runs(0, 2));
        due(NONE, x.runs(0, 3));
        due(14, x.runs(2, 0));
        due(NONE, x.runs(2, 3));
        due(1, x.runs(3, 1));
        due(120, x.runs(3, 2));
        due(3, x.runs(3, 3));
        due(3, x.runs(60, 3));
        due(0, x.rule(2));
        due(22, x.rule(5));
        x.days(2);
        due(1, x.runs(1, 3));
        x.days(1);
        due(0, x.runs(1, 1));
        due(NONE, x.runs(60, 3));
        due(BAD, x.runs(-1, 0));
        due(BAD, x.runs(61, 0));
        due(BAD, x.runs(0, -1));
        due(BAD, x.runs(0, 4));
    }

    static void ahead() {
        promise = 17;
        HueLease x = of(FOUR);
        due(801, x.ahead(0, 0, 0));
        due(60, x.ahead(0, 0, 1));
        due(10, x.ahead(0, 0, 2));
        due(802, x.ahead(0, 1, 0));
        due(78, x.ahead(1, 3, 0));
        due(0, x.ahead(1, 3, 1));
        due(3, x.ahead(1, 3, 2));
        due(688, x.one(1, 2));
        due(2, x.ahead(0, 60, 2));
        due(BAD, x.ahead(-1, 0, 0));
        due(BAD, x.ahead(2, 0, 0));
        due(BAD, x.ahead(0, -1, 0));
        due(BAD, x.ahead(0, 61, 0));
        due(BAD, x.ahead(0, 0, -1));
        due(BAD, x.ahead(0, 0, 3));
    }

    static void lasts() {
        promise = 18;
        HueLease x = of("plain 1 1 1 9;lasting 2 2 2 9;one 99 99;one 99 9;one 0 0;one 0 0;"
            + "lent 0 0 5;lent 1 1 1;lent 2 1 1;");
        due(5, x.lasts(0));
        due(NONE, x.lasts(1));
        due(1, x.lasts(2));
        due(0, x.lasts(3));
        due(BAD, x.lasts(-1));
        due(BAD, x.lasts(4));
        due(BAD, new HueLease().lasts(0));
        HueLease y = of("plain 1 1 1 9;one 0 99;one 0 99;lent 0 0 60;lent 1 0 61;");
        y.pay(0, 0, 999);
        y.pay(1, 0, 999);
        due(60, y.lasts(0));
        due(NONE, y.lasts(1));
        due(60, y.holds(0, 0));
    }

    static void mix() {
        promise = 19;
        HueLease x = of(THREE_LIGHTS);
        int[][] want = {{900, 1, 0, 1, 0, 0}, {440, 2, 0, 1, 1, 0}, {900, 3, 6, 2, 0, 1}, {9, 6, 0, 0, 0, 6}};
        for (int[] w : want) {
            for (int what = 0; what <= 3; what++) {
                due(w[2 + what], x.mix(w[0], w[1], what));
            }
        }
        due(BAD, x.mix(-1, 1, 0));
        due(BAD, x.mix(1000, 1, 0));
        due(BAD, x.mix(0, 0, 0));
        due(BAD, x.mix(0, 7, 0));
        due(BAD, x.mix(0, 1, -1));
        due(BAD, x.mix(0, 1, 4));
        HueLease y = of("plain 5 5 5 9;lasting 5 5 5 2;fugitive 5 5 5 0;");
        due(0, y.mix(555, 6, 0));
        due(4, y.mix(555, 6, 1));
        due(2, y.mix(555, 6, 2));
        due(0, y.mix(555, 6, 3));
        due(0, y.mix(555, 2, 1));
        y.alter(0, 4, 1);
        due(0, y.mix(555, 3, 0));
        due(NONE, y.mix(555, 4, 0));
        due(NONE, y.mix(555, 4, 1));
        due(BAD, y.mix(555, 4, 4));
        due(27, of("plain 0 0 0 1;").mix(999, 1, 0));
        due(1, of("plain 0 0 0 1;").mix(999, 1, 1));
        due(NONE, new HueLease().mix(0, 1, 0));
        due(BAD, new HueLease().mix(0, 1, 1));
    }

    static void cheap() {
        promise = 20;
        HueLease x = of(THREE_LIGHTS);
        due(2, x.cheap(900, 0, 1));
        due(3, x.cheap(90, 0, 1));
        due(6, x.cheap(9, 0, 1));
        due(2, x.cheap(9, 18, 1));
        due(22, x.cheap(999, 27, 6));
        due(22, x.cheap(999, 18, 6));
        due(NONE, x.cheap(999, 17, 6));
        due(7, x.cheap(900, 6, 3));
        due(NONE, x.cheap(900, 5, 3));
        due(BAD, x.cheap(-1, 0, 1));
        due(BAD, x.cheap(1000, 0, 1));
        due(BAD, x.cheap(0, -1, 1));
        due(BAD, x.cheap(0, 28, 1));
        due(BAD, x.cheap(0, 0, 0));
        due(BAD, x.cheap(0, 0, 7));
        due(NONE, of("plain 1 1 1 2;").cheap(111, 27, 3));
    }

    static void more() {
        promise = 21;
        HueLease x = of("plain 1 1 1 50;lasting 2 2 2 99;one 20 5;");
        due(6, x.more(0, 0));
        due(2, x.more(0, 1));
        due(0, x.holds(0, 0));
        x.alter(0, 4, 3);
        due(3, x.more(0, 0));
        x.alter(0, 4, 0);
        due(0, x.more(0, 0));
        due(50, of("lasting 1 1 1 50;one 0 0;lent 0 0 1;").more(0, 0));
        due(39, of("lasting 1 1 1 99;one 0 0;lent 0 0 60;").more(0, 0));
        due(0, of("royal 1 1 1 9;one 5 0;").more(0, 0));
        // Rent falls due on ten days, not on eleven: 30 is enough for one lasting drop.
        due(1, of("lasting 1 1 1 9;one 30 0;").more(0, 0));
        due(0, of("lasting 1 1 1 9;one 29 0;").more(0, 0));
        due(BAD, x.more(-1, 0));
        due(BAD, x.more(1, 0));
        due(BAD, x.more(0, -1));
        due(BAD, x.more(0, 2));
    }

    static void swap() {
        promise = 22;
        HueLease x = of("lasting 1 1 1 9;one 0 0;one 99 99;lent 0 0 5;");
        due(1, x.swap(0));
        due(0, x.swap(1));
        due(5, x.holds(0, 0));
        due(2, of("lasting 1 1 1 9;one 0 0;one 0 0;one 99 99;lent 0 0 5;").swap(0));
        due(1, of("lasting 1 1 1 9;one 0 0;one 99 99;one 99 99;lent 0 0 5;").swap(0));
        due(23, of("lasting 1 1 1 9;one 0 0;one 0 0;one 0 0;one 99 99;lent 2 0 5;").swap(0));
        HueLease y = of("royal 1 1 1 9;plain 1 1 1 9;one 0 0;one 0 0;one 99 99;lent 0 0 1;lent 0 1 1;lent 1 0 1;");
        due(2, y.swap(0));
        due(1, y.swap(1));
        // 60 pays one lasting drop for 20 days.
        due(1, of("lasting 1 1 1 9;one 0 0;one 60 0;lent 0 0 1;").swap(0));
        due(NONE, of("lasting 1 1 1 9;one 0 0;one 59 0;lent 0 0 1;").swap(0));
        due(NONE, of("lasting 1 1 1 9;one 0 0;one 59 0;lent 0 0 1;").swap(1));
        // What was seized before does not count.
        HueLease z = of("lasting 1 1 1 9;one 0 0;one 99 99;lent 0 0 5;");
        z.days(1);
        z.lend(0, 0, 5);
        due(1, z.rule(3));
        due(1, z.swap(0));
        due(0, z.swap(1));
        due(NONE, of(RICH).swap(0));
        due(BAD, y.swap(-1));
        due(BAD, y.swap(2));
        due(BAD, new HueLease().swap(2));
    }

    static void shed() {
        promise = 23;
        HueLease x = of("royal 1 1 1 9;lasting 1 1 1 9;one 0 6;one 0 0;lent 0 0 1;lent 0 1 2;");
        due(0, x.shed(0, 0));
        due(2, x.shed(0, 1));
        due(1, x.holds(0, 0));
        due(NONE, x.shed(1, 0));
        due(NONE, x.shed(1, 1));
        HueLease y = of("royal 1 1 1 9;royal 1 1 1 9;lasting 1 1 1 9;one 0 12;lent 0 0 1;lent 0 1 1;lent 0 2 2;");
        due(0, y.shed(0, 0));
        due(3, y.shed(0, 1));
        HueLease z = of("lasting 1 1 1 9;royal 1 1 1 9;lasting 1 1 1 9;one 0 9;lent 0 0 1;lent 0 1 1;lent 0 2 2;");
        due(1, z.shed(0, 0));
        due(3, z.shed(0, 1));
        due(BAD, x.shed(-1, 0));
        due(BAD, x.shed(2, 0));
        due(BAD, x.shed(0, -1));
        due(BAD, x.shed(0, 2));
    }

    static void need() {
        promise = 24;
        HueLease x = of("lasting 1 1 1 9;one 10 50;one 10 0;lent 0 0 4;lent 1 0 50;");
        due(0, x.need(0, 0));
        due(2, x.need(0, 1));
        due(10, x.need(0, 5));
        due(12, x.need(0, 60));
        due(50, x.one(0, 1));
        due(NONE, x.need(1, 1));
        due(0, x.need(1, 0));
        due(BAD, x.need(-1, 0));
        due(BAD, x.need(2, 0));
        due(BAD, x.need(0, -1));
        due(BAD, x.need(0, 61));
        due(99, of("lasting 1 1 1 9;one 0 0;lent 0 0 33;").need(0, 60));
        // Six, four and two are due, on the first day and on the next ones.
        due(6, of("plain 1 1 1 9;one 0 0;lent 0 0 3;").need(0, 60));
        due(3, of("plain 1 1 1 9;one 4 0;lent 0 0 3;").need(0, 60));
        HueLease y = of("lasting 1 1 1 9;one 0 0;lent 0 0 5;");
        y.days(1);
        due(0, y.need(0, 60));
    }

    static void kind() {
        promise = 25;
        HueLease x = of("plain 1 1 1 9;one 20 10;lent 0 0 5;");
        int[][] want = {{0, 0, 5}, {1, 1, 5}, {4, 1, 5}, {5, 0, 0}, {60, 0, 0}};
        for (int[] w : want) {
            due(w[1], x.kind(0, w[0], 0));
            due(w[2], x.kind(0, w[0], 1));
        }
        due(0, x.colour(0, 0));
        HueLease y = of("royal 1 1 1 9;one 0 9;one 99 9;lasting 1 1 1 9;lent 0 0 9;lent 1 1 1;");
        due(3, y.kind(0, 1, 0));
        due(7, y.kind(0, 1, 1));
        due(BAD, x.kind(-1, 0, 0));
        due(BAD, x.kind(1, 0, 0));
        due(BAD, x.kind(0, -1, 0));
        due(BAD, x.kind(0, 61, 0));
        due(BAD, x.kind(0, 0, -1));
        due(BAD, x.kind(0, 0, 2));
    }

    static void luckIs(HueLease x, int v, int n, int h, long above, long below) {
        due(above, x.luck(v, 0, n, h, 0));
        due(below, x.luck(v, 0, n, h, 1));
    }

    static void luck() {
        promise = 26;
        HueLease x = of("plain 9 0 0 9;lasting 0 9 0 9;one 99 99;lent 0 0 2;lent 0 1 2;");
        luckIs(x, 3, 0, 440, 1, 1);
        luckIs(x, 3, 0, 441, 0, 1);
        luckIs(x, 3, 1, 90, 3, 10);
        luckIs(x, 3, 1, 360, 7, 10);
        luckIs(x, 5, 1, 90, 1, 2);
        luckIs(x, 0, 1, 90, 0, 1);
        luckIs(x, 10, 1, 90, 1, 1);
        luckIs(x, 3, 2, 90, 1, 1);
        luckIs(x, 3, 2, 360, 0, 1);
        due(2, x.holds(0, 0));
        HueLease y = of("plain 9 0 0 9;lasting 0 9 0 9;one 99 99;lent 0 0 5;lent 0 1 1;");
        luckIs(y, 3, 2, 620, 49, 100);
        luckIs(y, 3, 2, 630, 21, 50);
        luckIs(y, 3, 2, 440, 9, 100);
        HueLease z = of("plain 9 0 0 9;lasting 0 9 0 9;one 99 99;lent 0 0 16;lent 0 1 1;");
        // Only eight sunny days take sixteen drops.
        luckIs(z, 1, 8, 90, 1, 100000000);
        luckIs(z, 9, 8, 90, 43046721, 100000000);
        HueLease w = of("plain 9 0 0 9;lasting 0 9 0 9;one 0 0;one 99 99;lent 1 0 2;lent 1 1 2;");
        due(9, w.luck(9, 1, 1, 90, 0));
        due(1, w.luck(9, 1, 1, 360, 0));
        due(10, w.luck(9, 1, 1, 360, 1));
        due(1, w.luck(9, 0, 1, 0, 0));
        due(0, w.luck(9, 0, 1, 90, 0));
        due(BAD, x.luck(-1, 0, 0, 0, 0));
        due(BAD, x.luck(11, 0, 0, 0, 0));
        due(BAD, x.luck(0, -1, 0, 0, 0));
        due(BAD, x.luck(0, 1, 0, 0, 0));
        due(BAD, x.luck(0, 0, -1, 0, 0));
        due(BAD, x.luck(0, 0, 9, 0, 0));
        due(BAD, x.luck(0, 0, 0, -1, 0));
        due(BAD, x.luck(0, 0, 0, 1000, 0));
        due(BAD, x.luck(0, 0, 0, 0, -1));
        due(BAD, x.luck(0, 0, 0, 0, 2));
    }

    static void mean() {
        promise = 27;
        HueLease x = of("plain 9 0 0 9;lasting 0 9 0 9;one 99 99;one 99 99;lent 0 0 5;lent 1 1 1;");
        long[][] want = {{3, 0, 6, 1}, {3, 2, 17, 5}, {0, 2, 4, 1}, {10, 2, 2, 1}, {5, 1, 9, 2}, {10, 8, 1, 1}};
        for (long[] w : want) {
            due(w[2], x.mean((int) w[0], (int) w[1], 0));
            due(w[3], x.mean((int) w[0], (int) w[1], 1));
        }
        due(6, x.rule(5));
        // Rent is due on all drops of the day, sunny or not; fugitive ones fade by six.
        HueLease y = of("fugitive 1 1 1 9;one 9 0;lent 0 0 9;");
        due(6, y.mean(0, 1, 0));
        due(3, y.mean(10, 1, 0));
        due(0, y.mean(10, 2, 0));
        due(1, y.mean(10, 2, 1));
        due(0, new HueLease().mean(3, 8, 0));
        due(1, new HueLease().mean(3, 8, 1));
        due(BAD, x.mean(-1, 0, 0));
        due(BAD, x.mean(11, 0, 0));
        due(BAD, x.mean(0, -1, 0));
        due(BAD, x.mean(0, 9, 0));
        due(BAD, x.mean(0, 0, -1));
        due(BAD, x.mean(0, 0, 2));
    }

    static void see() {
        promise = 28;
        HueLease x = of(FOUR);
        due(BAD, x.see(-1, 0, 0));
        due(BAD, x.see(21, 0, 0));
        due(BAD, x.see(0, -1, 0));
        due(BAD, x.see(0, 2, 0));
        due(BAD, x.see(0, 0, -1));
        due(BAD, x.see(0, 0, 1000));
        due(0, x.count(0));
        due(1, x.see(20, 0, 999));
        due(2, x.see(0, 1, 0));
        for (int n = 3; n <= 6; n++) {
            due(n, x.see(0, 0, 0));
        }
        due(FULL, x.see(0, 0, 0));
        due(BAD, x.see(21, 0, 0));
        due(6, x.count(0));
    }

    static void forget() {
        promise = 29;
        HueLease x = of(RICH);
        due(0, x.forget(0));
        due(BAD, x.forget(1));
        x.see(0, 0, 710);
        x.see(1, 0, 620);
        x.see(1, 0, 0);
        due(0, x.kinds(0));
        due(BAD, x.forget(-1));
        due(BAD, x.forget(4));
        due(3, x.forget(3));
        due(3, x.forget(2));
        due(1, x.kinds(0));
        due(2, x.forget(1));
        due(15, x.kinds(0));
        due(1, x.forget(0));
        due(0, x.count(0));
    }

    static void kinds() {
        promise = 30;
        HueLease x = of(RICH);
        due(15, x.kinds(0));
        due(15, x.kinds(1));
        int[][] want = {{710, 6}, {620, 1}, {440, 8}, {0, 0}};
        for (int[] w : want) {
            x.see(1, 0, w[0]);
            due(w[1], x.kinds(0));
            x.forget(0);
        }
        x.see(0, 0, 710);
        due(15, x.kinds(0));
        x.see(1, 0, 710);
        x.see(2, 0, 710);
        due(6, x.kinds(0));
        x.forget(0);
        x.see(1, 0, 620);
        due(1, x.kinds(0));
        x.days(1);
        due(6, x.kinds(0));
        due(0, x.colour(0, 0));
        due(BAD, x.kinds(-1));
        due(BAD, x.kinds(2));
        due(BAD, new HueLease().kinds(0));
    }

    static void drops() {
        promise = 31;
        HueLease x = of(RICH);
        due(HIGH, x.drops(0, 0));
        x.see(0, 0, 710);
        due(240, x.drops(0, 0));
        x.forget(0);
        x.see(0, 0, 800);
        due(2147483136, x.drops(0, 0));
        x.forget(0);
        // Four to seven are left behind one day: they were five to eight.
        x.see(1, 0, 710);
        due(480, x.drops(0, 0));
        due(4, x.holds(0, 0));
        x.see(0, 0, 0);
        due(0, x.drops(0, 0));
        due(BAD, x.drops(-1, 0));
        due(BAD, x.drops(1, 0));
        due(BAD, x.drops(0, -1));
        due(BAD, x.drops(0, 2));
        HueLease y = of("plain 9 0 0 9;lasting 0 9 0 9;one 99 99;one 0 0;lent 0 0 3;");
        y.see(0, 1, 0);
        due(HIGH, y.drops(0, 0));
        due(1, y.drops(1, 0));
        due(1, y.drops(1, 1));
        y.forget(0);
        // With three of the first, one of the second: 27 and 9 by four.
        y.see(0, 0, 620);
        due(2, y.drops(0, 1));
    }

    static void ask() {
        promise = 32;
        HueLease x = of(RICH);
        due(10, x.ask(0, 0));
        due(2, x.ask(0, 1));
        x.see(1, 0, 710);
        due(NONE, x.ask(0, 0));
        due(NONE, x.ask(0, 1));
        x.see(1, 0, 0);
        due(NONE, x.ask(0, 0));
        // The poor one can not pay for four royal drops.
        HueLease y = of("plain 9 0 0 9;lasting 0 9 0 9;one 0 0;one 20 0;lent 1 0 4;lent 1 1 1;");
        due(11, y.ask(0, 0));
        due(1, y.ask(0, 1));
        // 9 a day, if the first is royal, for 19 days: told apart from a lasting one on the last day that may be asked for.
        HueLease z = of("lasting 9 0 0 9;lasting 0 9 0 9;one 0 0;lent 0 0 1;lent 0 1 1;");
        z.pay(0, 0, 9 * 19);
        z.see(1, 0, 440);
        due(6, z.kinds(0));
        due(200, z.ask(0, 0));
        due(1, z.ask(0, 1));
        z.pay(0, 0, 9 * 20);
        due(NONE, z.ask(0, 0));
        // Once a look has left plain alone, or plain and fugitive where one drop fades by both, there is nothing to ask.
        HueLease w = of("plain 9 0 0 9;lasting 0 9 0 9;one 99 0;lent 0 0 2;lent 0 1 1;");
        w.see(0, 0, 630);
        due(10, w.ask(0, 0));
        w.see(1, 0, 440);
        due(1, w.kinds(0));
        due(NONE, w.ask(0, 0));
        HueLease v = of("plain 9 0 0 9;one 99 99;lent 0 0 1;");
        v.see(1, 0, 0);
        due(9, v.kinds(0));
        due(NONE, v.ask(0, 0));
        v.forget(0);
        due(10, v.ask(0, 0));
        due(2, v.ask(0, 1));
        due(BAD, x.ask(-1, 0));
        due(BAD, x.ask(2, 0));
        due(BAD, x.ask(0, -1));
        due(BAD, x.ask(0, 2));
        due(NONE, of("plain 1 1 1 1;").ask(0, 0));
    }

    static void drift() {
        promise = 33;
        HueLease x = of("lasting 1 1 1 5;plain 2 2 2 9;one 99 9;one 0 0;");
        int[] held = {1, 3, 6, 5, 5};
        for (int n = 1; n <= 5; n++) {
            due(held[n - 1], x.drift(0, n, 0));
            due(0, x.drift(0, n, 1));
        }
        due(6, x.drift(LOW, 3, 0));
        due(0, x.drift(-1, 2, 0));
        due(2, x.drift(-1, 2, 1));
        due(5, x.drift(-1, 4, 0));
        due(2, x.drift(-1, 4, 1));
        due(0, x.rule(2));
        due(0, x.rule(5));
        due(14, x.rule(4));
        x.lend(1, 0, 1);
        due(1, x.days(1));
        due(0, x.drift(0, 1, 1));
        due(2, x.drift(-1, 2, 1));
        due(BAD, x.drift(0, 0, 0));
        due(BAD, x.drift(0, 61, 0));
        due(BAD, x.drift(0, 1, -1));
        due(BAD, x.drift(0, 1, 2));
        due(STATE, of("one 1 1;").drift(0, 1, 0));
        due(STATE, of("plain 1 1 1 1;").drift(0, 1, 0));
        due(BAD, new HueLease().drift(0, 0, 0));
    }

    static void keep() {
        promise = 34;
        HueLease x = of(FOUR);
        due(BAD, x.keep(-1));
        due(BAD, x.keep(2));
        due(0, x.keep(0));
        due(1, x.keep(0));
        due(1, x.count(1));
        due(0, x.keep(1));
        due(2, x.count(1));
        x.days(2);
        due(1, x.keep(1));
        x.days(1);
        due(2, x.back(1));
        due(0, x.back(0));
    }

    static void back() {
        promise = 35;
        HueLease x = of(FOUR);
        due(STATE, x.back(0));
        due(BAD, x.back(-1));
        due(BAD, x.back(2));
        x.days(1);
        x.keep(0);
        x.days(2);
        x.alter(0, 0, 3);
        x.alter(1, 2, 1);
        x.alter(2, 4, 77);
        x.pay(0, 0, 500);
        x.pay(1, 1, 50);
        x.lend(0, 1, 2);
        x.see(3, 0, 0);
        due(1, x.back(0));
        due(1, x.rule(2));
        due(0, x.rule(3));
        due(0, x.colour(0, 0));
        due(7, x.colour(1, 2));
        due(4, x.colour(2, 4));
        due(52, x.one(0, 0));
        due(9, x.one(1, 1));
        due(7, x.holds(0, 0));
        due(0, x.holds(0, 1));
        due(6, x.holds(1, 3));
        due(1, x.count(0));
        x.days(1);
        due(1, x.back(0));
        due(STATE, x.back(1));
    }

    static void sheet() {
        promise = 36;
        HueLease x = new HueLease();
        due(1, x.sheet(0, 0, 0));
        due(0, x.count(3));
        due(1, x.sheet(0, 2, 40));
        due(40, x.count(3));
        due(1, x.lay(0, 39, 1));
        due(-14, x.sheet(0, 0, -1));
        due(-14, x.sheet(0, 0, LOW));
        due(BAD, x.sheet(0, 0, 41));
        due(BAD, x.sheet(0, 0, HIGH));
        due(BAD, x.sheet(-1, 0, 1));
        due(BAD, x.sheet(4, 0, 1));
        due(BAD, x.sheet(0, -1, 1));
        due(BAD, x.sheet(0, 3, 1));
        due(BAD, x.sheet(4, 0, -1));
        due(BAD, x.sheet(0, 3, -1));
        due(40, x.count(3));
        due(1, x.sheet(3, 1, 3));
        due(1, x.lay(3, 2, 1));
        tell(x, "plain 1 1 1 9;one 1 1;").text();
        due(1, x.read(3, 1, 0, 1));
        due(1, x.sheet(3, 1, 3));
        due(-20, x.read(3, 1, 0, 1));
        x.lay(3, 0, 1);
        due(1, x.sheet(3, 1, 3));
        x.lay(3, 2, 1);
        due(1, x.read(3, 1, 0, 1));
    }

    static void lay() {
        promise = 37;
        HueLease x = of("plain 1 1 1 99;plain 1 1 1 99;one 1 1;");
        due(-11, x.lay(0, 0, 0));
        for (int lane = 0; lane < 3; lane++) {
            int turn = lane == 0 ? 256 : 65536;
            x.sheet(0, lane, 3);
            due(1, x.lay(0, 0, turn));
            due(1, x.lay(0, 1, turn + 1));
            due(1, x.lay(0, 2, 5 - turn));
            due(lane == 2 ? -20 : 1, x.read(0, lane, 0, 1));
        }
        due(10, x.holds(0, 1));
        x.sheet(1, 0, 3);
        x.lay(1, 2, 128);
        due(-20, x.read(1, 0, 0, 1));
        x.sheet(1, 1, 3);
        x.lay(1, 2, 256 + 1);
        due(-20, x.read(1, 1, 0, 1));
        due(-12, x.lay(1, -1, 0));
        due(-12, x.lay(1, 3, 0));
        due(-12, x.lay(1, LOW, 0));
        due(-12, x.lay(1, HIGH, 0));
        due(BAD, x.lay(-1, 0, 0));
        due(BAD, x.lay(4, 0, 0));
        x.sheet(1, 1, 0);
        due(-12, x.lay(1, 0, 0));
    }

    static HueLease withLoans(int... cells) {
        HueLease x = of("plain 1 2 3 9;royal 4 5 6 5;one 9 9;one 50 2;");
        x.sheet(1, 1, cells.length);
        for (int i = 0; i < cells.length; i++) {
            x.lay(1, i, cells[i]);
        }
        return x;
    }

    static void read() {
        promise = 38;
        HueLease x = withLoans(0, 0, 4, 1, 1, 2, 0, 0, 9, 7);
        due(-22, x.read(1, 1, 0, 3));
        due(0, x.rule(5));
        due(14, x.rule(4));
        due(2, x.read(1, 1, 0, 2));
        due(4, x.holds(0, 0));
        due(2, x.holds(1, 1));
        due(5, x.colour(0, 4));
        due(3, x.colour(1, 4));
        due(1, x.read(1, 1, 3, 1));
        due(4, x.holds(1, 1));
        due(-20, x.read(1, 1, 6, 4));
        due(-20, x.read(1, 1, 1, 1));
        HueLease y = withLoans(0, 0, 4, 1, 1, 2, 0, 0);
        due(2, y.read(1, 1, 0, 13));
        due(2, y.torn());
        due(6, y.rule(5));
        for (int f : new int[] {6, 7, 8, 9, HIGH, HIGH - 1, HIGH - 5, -1, -2, -3, LOW}) {
            due(0, y.read(1, 1, f, 13));
            due(2, y.torn());
        }
        due(6, y.rule(5));
        due(0, y.read(1, 0, 0, 1));
        due(3, y.torn());
        due(0, y.read(1, 2, 0, 1));
        due(0, y.read(2, 1, 0, 1));
        due(1, y.torn());
        due(BAD, y.read(-1, 1, 0, 1));
        due(BAD, y.read(4, 1, 0, 1));
        due(BAD, y.read(1, -1, 0, 1));
        due(BAD, y.read(1, 3, 0, 1));
        due(BAD, y.read(1, 1, 0, -1));
        due(BAD, y.read(1, 1, 0, 14));
        due(BAD, y.read(2, 1, 0, 14));
        due(0, y.read(2, 1, -9, 0));
        due(0, y.torn());
        y.sheet(2, 1, 0);
        due(0, y.read(2, 1, 0, 1));
        due(2, y.torn());
        due(0, y.read(2, 2, 0, 1));
        due(3, y.torn());
        // One behind another: nine are in the vat, three times three come, and not one more.
        HueLease z = withLoans(0, 0, 3, 0, 0, 3, 1, 0, 3, 1, 0, 1);
        due(-23, z.read(1, 1, 0, 4));
        due(3, z.read(1, 1, 0, 3));
        due(0, z.colour(0, 4));
        due(-20, withLoans(2, 0, 1).read(1, 1, 0, 1));
        due(-20, withLoans(0, 2, 1).read(1, 1, 0, 1));
        due(-20, withLoans(0, 0, 0).read(1, 1, 0, 1));
        due(-21, withLoans(0, 0, 1, 0, 0, -1).read(1, 1, 0, 3));
    }

    static void torn() {
        promise = 39;
        HueLease x = withLoans(0, 0, 4, 0, 0, 4, 0, 0);
        due(0, x.torn());
        due(0, x.read(0, 1, 0, 1));
        due(1, x.torn());
        due(-21, withLoans(0, 0, 9, 0, 0, 1).read(1, 1, 0, 2));
        due(2, x.read(1, 1, 0, 3));
        due(2, x.torn());
        due(-20, x.read(1, 1, 0, 1));
        due(2, x.torn());
        due(BAD, x.read(1, 1, 0, 14));
        due(2, x.torn());
        due(0, x.read(1, 2, 0, 1));
        due(3, x.torn());
        x.text();
        due(3, x.torn());
        due(0, x.read(0, 0, 0, 0));
        due(0, x.torn());
    }

    static void count() {
        promise = 40;
        HueLease x = of(FOUR);
        int[] want = {0, 0, 0, NONE, 75, 29};
        for (int what = 0; what <= 5; what++) {
            due(want[what], x.count(what));
        }
        x.see(0, 0, 0);
        x.keep(1);
        x.feed('a');
        x.sheet(0, 1, 12);
        x.sheet(1, 1, 13);
        x.days(1);
        int[] then = {1, 1, 1, 12, 58, 29};
        for (int what = 0; what <= 5; what++) {
            due(then[what], x.count(what));
        }
        due(BAD, x.count(-1));
        due(BAD, x.count(6));
        due(BAD, x.count(LOW));
    }
}
