import java.util.List;

/** Boundary cases of promises 1 to 5: a new object, THE TAPE, its text and its faults. */
final class TextEdges {
    static final int BAD = -1, STATE = -2, FULL = -3, NONE = -4;
    static final String COLOUR = "plain 1 1 1 1;";
    static final String[] KINDS = {"plain", "lasting", "royal", "fugitive"};

    private TextEdges() {
    }

    static void run() {
        newObject();
        feed();
        end();
        answersOfText();
        tokens();
        faults();
        faultsOfWholeTexts();
        firstFault();
        bounds();
        whatATextTells();
        fault();
    }

    /** A text, told to a new object, that has so many lines. */
    static void lines(int n, String text) {
        HueLease x = Edges.tell(new HueLease(), text);
        Edges.due(n, x.text());
        Edges.due(0, x.fault());
    }

    /** A text, told to a new object, that has this fault where the sign | stands. */
    static void faulty(int fault, String marked) {
        HueLease x = Edges.tell(new HueLease(), marked.replace("|", ""));
        Edges.due(-10 - marked.indexOf('|'), x.text());
        Edges.due(fault, x.fault());
    }

    static void newObject() {
        Edges.edge(1, "Nobody, no COLOURS", () -> {
            HueLease x = new HueLease();
            Edges.due(0, x.rule(0));
            Edges.due(0, x.rule(1));
            Edges.due(0, x.rule(4));
            Edges.due(0, x.rule(5));
            Edges.due(BAD, x.colour(0, 0));
            Edges.due(BAD, x.one(0, 0));
            Edges.due(BAD, x.holds(0, 0));
            Edges.due(0, x.count(4));
            Edges.due(0, x.count(5));
        });
        Edges.edge(1, "SHEETS have nothing.", () -> {
            HueLease x = new HueLease();
            Edges.due(NONE, x.count(3));
            for (int k = 0; k < 4; k++) {
                Edges.due(-11, x.lay(k, 0, 0));
                Edges.due(0, x.read(k, 0, 0, 1));
                Edges.due(1, x.torn());
            }
        });
        Edges.edge(1, "DAY, SEIZURES (0 at first)", () -> {
            HueLease x = new HueLease();
            Edges.due(0, x.rule(2));
            Edges.due(0, x.rule(3));
        });
        Edges.edge(1, "BAD -1 (a number is not as told, there is no such COLOUR, ONE, IMAGE, SHEET), STATE -2 (as told), FULL -3,"
            + " NONE -4 (there is none), the first that fits", () -> {
            HueLease x = Edges.tell(new HueLease(), " ".repeat(160));
            int[] answers = {x.rule(6), x.back(0), x.feed(' '), x.swap(0)};
            int[] constants = {HueLease.BAD, HueLease.STATE, HueLease.FULL, HueLease.NONE};
            for (int i = 0; i < 4; i++) {
                Edges.due(-1 - i, answers[i]);
                Edges.due(-1 - i, constants[i]);
            }
        });
        Edges.edge(1, "An object is used for at most 512 calls after it has been made", () -> {
            HueLease x = Edges.of("lasting 1 2 3 99;one 9 9;");
            for (int call = 27; call <= 511; call++) {
                Edges.due(call % 2 == 1 ? 3 : 0, call % 2 == 1 ? x.lend(0, 0, 3) : x.bring(0, 0, 3));
            }
            Edges.due(96, x.rule(4));
        });
        everyCallOnNothing();
    }

    /** Nobody and no colours: each call has an answer nevertheless. */
    static void everyCallOnNothing() {
        Edges.edge(1, "Nobody, no COLOURS", () -> {
            HueLease x = new HueLease();
            Edges.due(0, x.end(0));
            Edges.due(0, x.text());
            Edges.due(BAD, x.off(0, 0));
            Edges.due(BAD, x.alter(0, 0, 0));
            Edges.due(BAD, x.pay(0, 0, 0));
            Edges.due(BAD, x.lend(0, 0, 1));
            Edges.due(BAD, x.bring(0, 0, 1));
            Edges.due(0, x.days(30));
            Edges.due(30, x.rule(2));
            Edges.due(0, x.runs(60, 0));
            Edges.due(0, x.runs(60, 1));
            Edges.due(0, x.runs(60, 2));
            Edges.due(NONE, x.runs(60, 3));
            Edges.due(BAD, x.ahead(0, 0, 0));
            Edges.due(BAD, x.lasts(0));
            Edges.due(NONE, x.mix(0, 1, 0));
            Edges.due(NONE, x.cheap(0, 27, 1));
            Edges.due(BAD, x.more(0, 0));
            Edges.due(NONE, x.swap(0));
            Edges.due(BAD, x.shed(0, 0));
            Edges.due(BAD, x.need(0, 0));
            Edges.due(BAD, x.kind(0, 0, 0));
            Edges.due(BAD, x.luck(0, 0, 0, 0, 0));
            Edges.due(0, x.mean(5, 8, 0));
            Edges.due(1, x.mean(5, 8, 1));
            Edges.due(BAD, x.see(0, 0, 0));
            Edges.due(0, x.forget(0));
            Edges.due(BAD, x.kinds(0));
            Edges.due(BAD, x.drops(0, 0));
            Edges.due(BAD, x.ask(0, 0));
            Edges.due(STATE, x.drift(0, 1, 0));
            Edges.due(STATE, x.back(0));
            Edges.due(0, x.keep(0));
            Edges.due(30, x.back(0));
        });
    }

    static void feed() {
        Edges.edge(2, "A byte (0 to 127) comes behind THE TAPE", () -> Edges.bounds(0, 127, Edges::busy, HueLease::feed));
        Edges.edge(2, "how many it has. BAD", () -> {
            HueLease x = new HueLease();
            for (int c = 0; c <= 127; c++) {
                Edges.due(c + 1, x.feed(c));
            }
            Edges.due(BAD, x.feed(128));
            Edges.due(BAD, x.feed(-1));
            Edges.due(129, x.feed(0));
        });
        Edges.edge(2, "FULL: more than 160.", () -> {
            HueLease x = new HueLease();
            for (int n = 1; n <= 160; n++) {
                Edges.due(n, x.feed(' '));
            }
            for (int i = 0; i < 3; i++) {
                Edges.due(FULL, x.feed('?'));
            }
            Edges.due(160, x.count(2));
            Edges.due(0, x.text());
            Edges.due(0, x.fault());
            Edges.due(1, x.feed(' '));
        });
        Edges.edge(2, "THE TAPE has 160 bytes, places from 0.", () -> {
            lines(1, " ".repeat(152) + "one 1 1;");
            lines(1, "one 1 1;" + " ".repeat(152));
            faulty(1, " ".repeat(159) + "|?");
            faulty(1, "|?" + " ".repeat(159));
        });
        Edges.edge(2, "the first that fits", () -> {
            HueLease x = Edges.tell(new HueLease(), " ".repeat(160));
            Edges.due(BAD, x.feed(128));
            Edges.due(BAD, x.feed(-1));
            Edges.due(FULL, x.feed(127));
        });
    }

    static void end() {
        Edges.edge(3, "THE TAPE keeps its first n bytes: how many it had.", () -> {
            HueLease x = Edges.tell(new HueLease(), "one 1 1;one 2 2;");
            Edges.due(16, x.end(16));
            Edges.due(16, x.end(15));
            Edges.due(15, x.end(8));
            Edges.due(9, x.feed(';'));
            Edges.due(9, x.end(8));
            Edges.due(1, x.text());
            Edges.due(1, x.one(0, 0));
        });
        Edges.edge(3, "THE TAPE keeps its first n bytes", () -> {
            HueLease empty = new HueLease();
            Edges.due(0, empty.end(0));
            HueLease x = Edges.tell(new HueLease(), "?".repeat(160));
            Edges.due(160, x.end(160));
            Edges.due(160, x.end(159));
            Edges.due(160, x.feed('?'));
            Edges.due(FULL, x.feed('?'));
            Edges.due(160, x.end(0));
            Edges.due(0, x.count(2));
            Edges.due(0, x.text());
            Edges.due(0, x.fault());
        });
        Edges.edge(3, "BAD (n above that, too).", () -> {
            Edges.bounds(0, 10, Edges::busy, HueLease::end);
            Edges.bounds(0, 0, HueLease::new, HueLease::end);
            HueLease x = Edges.tell(new HueLease(), "one 1 1;one 2 2;");
            x.end(8);
            Edges.due(BAD, x.end(9));
            Edges.due(BAD, x.end(16));
            x.text();
            Edges.due(BAD, x.end(1));
        });
    }

    static void answersOfText() {
        Edges.edge(4, "THE TAPE (empty then, by a FAULT, too) tells all", () -> {
            HueLease x = Edges.tell(new HueLease(), "one 1 1;");
            Edges.due(1, x.text());
            Edges.due(0, x.count(2));
            Edges.due(1, x.feed('?'));
            Edges.due(-10, x.text());
            Edges.due(0, x.count(2));
            Edges.due(1, x.feed(' '));
            Edges.due(0, x.text());
        });
        Edges.edge(4, "how many lines", () -> {
            lines(0, "");
            lines(0, " ");
            lines(0, " ".repeat(160));
            lines(1, "one 1 1;");
            String loans = "lent0 0 0;lent0 1 0;lent0 2 0;lent0 3 0;lent1 0 0;lent1 1 0;lent1 2 0;lent1 3 0;";
            String most = "royal0 0 0 0;".repeat(4) + "one0 0;".repeat(4) + loans;
            Edges.due(160, most.length());
            lines(16, most);
        });
        Edges.edge(4, "-10 less the place of its FAULT", () -> {
            Edges.due(-10, Edges.tell(new HueLease(), "?").text());
            Edges.due(-11, Edges.tell(new HueLease(), " ?").text());
            Edges.due(-169, Edges.tell(new HueLease(), " ".repeat(159) + "?").text());
            Edges.due(-170, Edges.tell(new HueLease(), " ".repeat(153) + "one 1 1").text());
        });
        Edges.edge(4, "that which was told stays.", () -> {
            String[] texts = {"one 1 1;?", "one 1 1;plain", "plain 10 1 1 1;", "lent 0 0 1;lent 0 0 1;", COLOUR.repeat(6),
                "one 1 1;lent 0 0 1;"};
            for (int i = 0; i < texts.length; i++) {
                HueLease x = Edges.busy();
                HueLease untouched = Edges.busy();
                x.end(0);
                untouched.end(0);
                Edges.tell(x, texts[i]);
                Edges.due(1, x.text() <= -10 ? 1 : 0);
                Edges.due(i + 1, x.fault());
                List<Long> was = Edges.picture(untouched);
                Edges.due(1, was.equals(Edges.picture(x)) ? 1 : 0);
            }
        });
        Edges.edge(4, "what is refused changes nothing (but THE TAPE, as told)", () -> {
            HueLease x = Edges.of("one 5 6;");
            Edges.tell(x, "royal 1 2 3 4;one 7 8;one").text();
            Edges.due(0, x.count(2));
            Edges.due(0, x.rule(0));
            Edges.due(1, x.rule(1));
            Edges.due(5, x.one(0, 0));
            // Nothing of the text that was refused is left for the next one.
            Edges.due(1, Edges.tell(x, "one 1 1;").text());
            Edges.due(0, x.rule(0));
            Edges.due(1, x.rule(1));
            Edges.tell(x, "plain 1 1 1 1;one 1 1;lent 0 0 9;?").text();
            Edges.due(3, Edges.tell(x, "plain 1 1 1 1;one 1 1;lent 0 0 5;").text());
            Edges.due(5, x.holds(0, 0));
        });
    }

    static void tokens() {
        Edges.edge(4, "TOKENS, each as long as may be", () -> {
            faulty(2, "|oneone 1 1;");
            faulty(2, "|plains 1 1 1 1;");
            faulty(2, "one 11|;");
            faulty(1, "one |111;");
            HueLease x = Edges.of("one 12 34;");
            Edges.due(12, x.one(0, 0));
            Edges.due(34, x.one(0, 1));
        });
        Edges.edge(4, "any number of blanks (32) ahead of, between, behind them", () -> {
            lines(1, "one 1 1;");
            lines(2, "   one   1   1   ;   one 1 1;");
            lines(1, "one" + " ".repeat(151) + "1 1 ; ");
            for (int c : new int[] {9, 10, 11, 12, 13, 31, 33, 0, 95, 127}) {
                faulty(1, "one 1|" + (char) c + "1;");
            }
        });
        Edges.edge(4, "one at least between two NAMES, between two NUMBERS; else none is needed", () -> {
            lines(3, "royal1 2 3 4;one5 6;lent0 0 7;");
            faulty(2, "plain |plain 1 1 1 1;");
            faulty(2, "|plainplain 1 1 1 1;");
            faulty(2, "one 1 1|one;");
            faulty(2, "one 12|;");
            faulty(2, "one 1 1;|5one");
        });
        Edges.edge(4, "NUMBERS (1 or 2 figures)", () -> {
            for (String number : new String[] {"0", "00", "9", "09", "10", "99"}) {
                HueLease x = Edges.of("one " + number + " 1;");
                Edges.due(Integer.parseInt(number), x.one(0, 0));
            }
            faulty(1, "one |000 1;");
            faulty(1, "one |100 1;");
            faulty(1, "one |999 1;");
        });
        Edges.edge(4, "the sign ; (every other byte is no TOKEN)", () -> {
            for (int c = 0; c <= 127; c++) {
                boolean token = c >= 'a' && c <= 'z' || c >= '0' && c <= '9' || c == ';';
                for (String ahead : new String[] {"", "one 1 1;", "one 1 1 ; "}) {
                    HueLease x = Edges.tell(new HueLease(), ahead);
                    x.feed(c);
                    Edges.due(c == ' ' ? Math.min(1, ahead.length()) : -10 - ahead.length(), x.text());
                    Edges.due(c == ' ' ? 0 : token ? 2 : 1, x.fault());
                }
            }
        });
    }

    static void faults() {
        Edges.edge(4, "1 no TOKEN", () -> {
            faulty(1, "|Plain 1 1 1 1;");
            faulty(1, "plain |N 1 1 1;");
            faulty(1, "one |-1 1;");
            faulty(1, "one 1|,1;");
            faulty(1, "one 1 1|.");
            faulty(1, "one 1 1;|\n");
        });
        Edges.edge(4, "a NUMBER that is too long (its first byte)", () -> {
            faulty(1, "|100");
            faulty(1, "one  |100 1;");
            faulty(1, "one 1 |001;");
            faulty(1, "one 1 1;  |1234;");
            faulty(1, "|" + "7".repeat(160));
        });
        Edges.edge(4, "2 a TOKEN that can not stand there", () -> {
            String[][] lines = {{"plain", "1", "2", "3", "4", ";"}, {"one", "1", "2", ";"}, {"lent", "0", "0", "1", ";"}};
            for (String[] line : lines) {
                for (int i = 0; i < line.length; i++) {
                    String ahead = String.join(" ", List.of(line).subList(0, i)) + (i > 0 ? " " : "");
                    faultyUnless(line[i], ahead);
                }
            }
        });
        Edges.edge(4, "(a NAME that begins no line", () -> {
            for (String name : new String[] {"plain", "lasting", "royal", "fugitive", "one", "lent"}) {
                faulty(2, "|" + name.substring(1) + " 1 1 1 1;");
                faulty(2, "|" + name.substring(0, name.length() - 1) + " 1 1 1 1;");
                faulty(2, "|" + name + "a 1 1 1 1;");
                faulty(2, "|z" + name.substring(1) + " 1 1 1 1;");
                faulty(2, "|" + name.substring(0, name.length() - 1) + "z 1 1 1 1;");
            }
            faulty(2, "|a");
            faulty(2, "|" + "z".repeat(160));
        });
        Edges.edge(4, "or the end: the length)", () -> {
            String[] texts = {"plain 1 2 3 4;", "one 1 2;", "lent 0 0 1;"};
            for (String text : texts) {
                for (int n = text.indexOf(' '); n < text.length(); n++) {
                    faulty(2, text.substring(0, n) + "|");
                    faulty(2, text.substring(0, n) + "   |");
                }
            }
        });
    }

    /** Tokens of the other sorts can not stand where this one can. */
    static void faultyUnless(String right, String ahead) {
        char sort = right.charAt(0);
        if (sort < 'a') {
            faulty(2, ahead + "|one");
        }
        if (sort == ';' || sort >= 'a') {
            faulty(2, ahead + "|5");
        }
        if (sort != ';') {
            faulty(2, ahead + "|;");
        }
    }

    static void faultsOfWholeTexts() {
        Edges.edge(4, "4 a ONE and a COLOUR that are told of already (the COLOUR).", () -> {
            String world = COLOUR + COLOUR + "one 1 1;one 1 1;";
            lines(8, world + "lent 0 0 1;lent 0 1 1;lent 1 0 1;lent 1 1 1;");
            faulty(4, world + "lent 0 0 1;lent 0 |0 1;");
            faulty(4, world + "lent 1 1 0;lent 0 1 0;lent 1 |1 0;");
            faulty(4, "lent 3 4 1;lent 3 |4 1;");
            faulty(4, "lent 0 0 1;" + world + "lent 00 |00 1;");
        });
        Edges.edge(4, "5 the 6th COLOUR, the 5th one (its NAME).", () -> {
            for (String kind : KINDS) {
                faulty(5, COLOUR.repeat(5) + "|" + kind + " 1 1 1 1;");
                faulty(5, (kind + " 1 1 1 1;").repeat(5) + "one 1 1;|plain");
            }
            faulty(5, "one 1 1;".repeat(4) + "|one 1 1;");
            faulty(5, "one 1 1;".repeat(4) + COLOUR + "  |one");
        });
        Edges.edge(4, "COLOURS (5 at most), by order", () -> {
            lines(5, "plain1 1 1 1;lasting1 1 1 1;royal1 1 1 1;fugitive1 1 1 1;royal 4 3 2 1;");
            HueLease x = Edges.of(COLOUR.repeat(4) + "royal 4 3 2 1;");
            Edges.due(5, x.rule(0));
            Edges.due(2, x.colour(4, 0));
            Edges.due(BAD, x.colour(5, 0));
        });
        Edges.edge(4, "PEOPLE (4 at most), by order", () -> {
            HueLease x = Edges.of("one 1 2;one 3 4;one 5 6;one 7 8;");
            Edges.due(4, x.rule(1));
            Edges.due(7, x.one(3, 0));
            Edges.due(BAD, x.one(4, 0));
        });
        Edges.edge(4, "Behind all (the length): 6 a ONE, a COLOUR that there is not.", () -> {
            lines(3, COLOUR + "one 1 1;lent 0 0 1;");
            faulty(6, COLOUR + "one 1 1;lent 1 0 1;|");
            faulty(6, COLOUR + "one 1 1;lent 0 1 1;|");
            faulty(6, "lent 0 0 0;|");
            faulty(6, "lent 0 0 0;one 1 1;   |");
            faulty(6, "lent 3 0 1;" + COLOUR + "one 1 1;".repeat(3) + "|");
            faulty(6, "lent 0 4 1;" + COLOUR.repeat(4) + "one 1 1;|");
            lines(6, "lent 3 0 1;" + COLOUR + "one 1 1;".repeat(4));
            lines(7, "lent 0 4 1;" + COLOUR.repeat(5) + "one 1 1;");
        });
    }

    static void firstFault() {
        Edges.edge(4, "FAULTS, the first met as it is read (a TOKEN is read when the one before has been taken)", () -> {
            faulty(3, "plain |10?");
            faulty(3, "lent |4?");
            faulty(2, "one 1 |;?");
            faulty(2, "|5?");
            faulty(1, "one |? 100");
            faulty(1, "|100?");
            faulty(1, "lent |100 4 1;");
            faulty(3, "lent |4 5 1;");
            faulty(3, "lent 3 4 1;lent 3 |5 1;");
            faulty(4, "lent 3 4 1;lent 3 |4 100;");
            faulty(4, "lent 3 4 1;lent 3 |4?");
            faulty(5, COLOUR.repeat(5) + "|plain?");
            faulty(5, COLOUR.repeat(5) + "|plain 10 1 1 1;");
            faulty(2, COLOUR.repeat(5) + "|plan 1 1 1 1;");
            faulty(5, "lent 3 4 1;" + "one 1 1;".repeat(4) + "|one 1 1;");
            faulty(2, "lent 3 4 1;|x");
            faulty(1, "lent 3 4 1;|?");
            faulty(4, "lent 3 4 1;lent 3 |4 1;");
        });
    }

    static void bounds() {
        Edges.edge(4, "3 a NUMBER out of its bounds.", () -> {
            faulty(3, "plain |10 1 1 1;");
            faulty(3, "plain 1 |10 1 1;");
            faulty(3, "plain 1 1 |10 1;");
            faulty(3, "lent |4 0 0;");
            faulty(3, "lent 0 |5 0;");
        });
        Edges.edge(4, "of three LIGHTS (0 to 9 each), with a VAT of so many DROPS (0 to 99)", () -> {
            HueLease x = Edges.of("plain 0 0 0 0;royal 9 09 9 99;");
            for (int what = 1; what <= 4; what++) {
                Edges.due(0, x.colour(0, what));
                Edges.due(what == 4 ? 99 : 9, x.colour(1, what));
            }
            for (int light = 10; light <= 99; light++) {
                faulty(3, "fugitive |" + light + " 1 1 1;");
                faulty(3, "lasting 1 |" + light + " 1 1;");
                faulty(3, "royal 1 1 |" + light + " 1;");
            }
            faulty(1, "plain 1 1 1 |100;");
        });
        Edges.edge(4, "each a ONE with a PURSE (0 to 999), who EARNS so much a DAY (0 to 99)", () -> {
            HueLease x = Edges.of("one 0 0;one 99 99;");
            Edges.due(0, x.one(0, 0));
            Edges.due(0, x.one(0, 1));
            Edges.due(99, x.one(1, 1));
            Edges.due(99, x.pay(1, 0, 999));
            Edges.due(999, x.one(1, 0));
            faulty(1, "one 1 |100;");
        });
        Edges.edge(4, "one: a ONE more: PURSE (0 to 99), EARNS.", () -> {
            lines(2, "one 0 0;one 99 99;");
            faulty(1, "one |100 1;");
            faulty(1, "one |999 1;");
        });
        Edges.edge(4, "lent: a ONE (0 to 3), a COLOUR (0 to 4)", () -> {
            String world = COLOUR.repeat(5) + "one 1 1;".repeat(4);
            lines(11, world + "lent 0 0 1;lent 3 4 1;");
            for (int v = 4; v <= 99; v++) {
                faulty(3, world + "lent |" + v + " 0 1;");
            }
            for (int v = 5; v <= 99; v++) {
                faulty(3, world + "lent 0 |" + v + " 1;");
            }
        });
        Edges.edge(4, "how many DROPS of it he HOLDS (0 to 99; besides what is in the VAT)", () -> {
            HueLease x = Edges.of("plain 1 1 1 99;plain 1 1 1 0;one 1 1;lent 0 0 99;lent 0 1 0;");
            Edges.due(99, x.holds(0, 0));
            Edges.due(0, x.holds(0, 1));
            Edges.due(99, x.colour(0, 4));
            Edges.due(0, x.colour(1, 4));
            faulty(1, "plain 1 1 1 99;one 1 1;lent 0 0 |100;");
        });
        Edges.edge(4, "HOLDS so many DROPS of each COLOUR (0 to 99; 0 at first)", () -> {
            HueLease x = Edges.of("plain 1 1 1 99;royal 1 1 1 9;one 1 1;one 2 2;lent 1 0 99;");
            Edges.due(0, x.holds(0, 0));
            Edges.due(0, x.holds(0, 1));
            Edges.due(99, x.holds(1, 0));
            Edges.due(0, x.holds(1, 1));
        });
    }

    static void whatATextTells() {
        Edges.edge(4, "A text that is taken tells all, in place of what there was (what no line tells is as at first)", () -> {
            HueLease x = Edges.busy();
            x.end(0);
            Edges.due(2, Edges.tell(x, "fugitive 1 2 3 4;one 7 8;").text());
            int[] rules = {1, 1, 0, 0, 4, 0};
            for (int what = 0; what <= 5; what++) {
                Edges.due(rules[what], x.rule(what));
            }
            Edges.due(0, x.holds(0, 0));
            Edges.due(BAD, x.holds(1, 0));
            Edges.due(BAD, x.holds(0, 1));
            Edges.due(0, x.text());
            for (int what = 0; what <= 5; what++) {
                Edges.due(0, x.rule(what));
            }
        });
        Edges.edge(4, "nothing is SEEN", () -> {
            HueLease x = Edges.busy();
            x.end(0);
            Edges.due(2, x.count(0));
            Edges.due(0, x.text());
            Edges.due(0, x.count(0));
            Edges.due(BAD, x.forget(1));
        });
        Edges.edge(4, "IMAGES are gone", () -> {
            HueLease x = Edges.busy();
            x.keep(0);
            x.end(0);
            Edges.due(2, x.count(1));
            Edges.due(0, x.text());
            Edges.due(0, x.count(1));
            Edges.due(STATE, x.back(0));
            Edges.due(STATE, x.back(1));
            Edges.due(0, x.keep(1));
        });
        Edges.edge(4, "SHEETS stay.", () -> {
            HueLease x = Edges.busy();
            x.end(0);
            Edges.tell(x, Edges.FOUR).text();
            Edges.due(7, x.count(3));
            Edges.due(2, x.read(0, 1, 0, 2));
            Edges.due(3, x.holds(1, 0));
            Edges.due(2, x.holds(0, 1));
            Edges.due(1, x.read(2, 0, 0, 1));
            Edges.due(1, x.holds(0, 3));
            Edges.due(-11, x.lay(1, 0, 0));
        });
    }

    static void fault() {
        Edges.edge(5, "The FAULT of the latest text(); 0.", () -> {
            HueLease x = new HueLease();
            Edges.due(0, x.fault());
            String[] texts = {"", "?", "one", "plain 10", "lent 0 0 1;lent 0 0", COLOUR.repeat(6), "lent 0 0 1;"};
            for (int i = texts.length - 1; i >= 0; i--) {
                Edges.tell(x, texts[i]);
                Edges.due(i < texts.length - 1 ? i + 1 : 0, x.fault());
                x.text();
                Edges.due(i, x.fault());
                Edges.due(i, x.fault());
            }
        });
        Edges.edge(5, "The FAULT of the latest text()", () -> {
            HueLease x = Edges.of(COLOUR + "one 1 1;");
            x.keep(0);
            Edges.tell(x, "one").text();
            x.back(0);
            x.days(1);
            x.sheet(0, 0, -1);
            x.read(1, 0, 0, 1);
            x.feed(128);
            x.end(9);
            Edges.due(2, x.fault());
        });
    }
}
