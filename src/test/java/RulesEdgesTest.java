/** The edges that the document names of the rules' texts: Terms I, promises 9 to 11, sentence by sentence. */
public final class RulesEdgesTest {
    private static final Check CHECK = new Check();
    private static final int NONE = KeyBox.NONE;
    private static final int MIN = Integer.MIN_VALUE;
    private static final int MAX = Integer.MAX_VALUE;
    private static final int SYNTAX = 1;
    private static final int OUT_OF_BOUNDS = 2;
    private static final int TWICE = 3;

    /** The first words of lines, by the number that rule() has for each. */
    private static final String[] WORDS = {"stamp", "most", "loan", "flat", "falling", "weeks", "late", "absent",
        "social", "death", "turn", "order"};
    private static final int[] UNTOLD = {10, 5, 300, 10, NONE, 12, 0, 0, 1, 100, 4, 0};
    private static final String EVERY_LINE = "stamp 1;most 2;loan 3;flat 4;weeks 5;late 6;absent 7;social 8;death 9;"
            + "turn 11;order saved;";

    public static void main(String[] args) {
        tokens();
        lines();
        untold();
        bounds();
        faults();
        promises();
        CHECK.finish();
    }

    private static void tokens() {
        CHECK.sentence("RULES 0 .. 3, each told by a text on THE TAPE", RulesEdgesTest::fourRules);
        CHECK.sentence("THE TAPE (at most 500 bytes)", RulesEdgesTest::textOf500);
        CHECK.sentence("TOKENS with any blanks (32, 10) between", RulesEdgesTest::blanks);
        CHECK.sentence("WORDS (small letters, as many as there are)", RulesEdgesTest::smallLetters);
        CHECK.sentence("NUMBERS (digits, as many as there are, 5 at most)", RulesEdgesTest::digits);
    }

    private static void lines() {
        CHECK.sentence("text = {line \";\"}", RulesEdgesTest::linesOfAText);
        for (int topic = 0; topic < 11; topic++) {
            int which = topic;
            CHECK.sentence("\"" + WORDS[topic] + "\" N", () -> lineWithNumber(which));
        }
        CHECK.sentence("\"order\" (\"first\" | \"small\" | \"saved\")", RulesEdgesTest::orders);
    }

    private static void untold() {
        String[] told = {"stamp 10", "most 5", "loan 300", "flat 10", "", "weeks 12", "late 0", "absent 0", "social 1",
            "death 100", "turn 4", "order first"};
        for (int topic = 0; topic < told.length; topic++) {
            int which = topic;
            if (!told[topic].isEmpty()) {
                CHECK.sentence("What isn't told: .. " + told[topic], () -> untoldAmongTold(which));
            }
        }
        CHECK.sentence("(RULES are so ahead of any text.)", () -> {
            for (int r = 0; r < 4; r++) {
                CHECK.dueRow("RULES " + r, Check.rule(new KeyBox(), r), UNTOLD);
            }
        });
    }

    private static void bounds() {
        CHECK.sentence("stamp 1 .. 1000", () -> boundsOf(0, 1, 1000));
        CHECK.sentence("most 1 .. 9", () -> boundsOf(1, 1, 9));
        CHECK.sentence("loan 0 .. 900 (hundredths of what is saved)", () -> boundsOf(2, 0, 900));
        CHECK.sentence("flat, falling 0 .. 50 (hundredths)", () -> {
            boundsOf(3, 0, 50);
            boundsOf(4, 0, 50);
        });
        CHECK.sentence("weeks 1 .. 40", () -> boundsOf(5, 1, 40));
        CHECK.sentence("late, absent, social 0 .. 1000", () -> {
            boundsOf(6, 0, 1000);
            boundsOf(7, 0, 1000);
            boundsOf(8, 0, 1000);
        });
        CHECK.sentence("death 0 .. 50000", () -> boundsOf(9, 0, 50000));
        CHECK.sentence("turn 1 .. 52", () -> boundsOf(10, 1, 52));
    }

    private static void faults() {
        CHECK.sentence("PLACE (a TOKEN's first byte", RulesEdgesTest::placeIsTheFirstByte);
        CHECK.sentence("the text's length at its end)", RulesEdgesTest::placeAtTheEnd);
        CHECK.sentence("the first come to as TOKENS are read one by one", RulesEdgesTest::firstComeTo);
        CHECK.sentence("of one TOKEN the least KIND", RulesEdgesTest::leastKind);
        CHECK.sentence("1 SYNTAX: a TOKEN", RulesEdgesTest::wrongTokens);
        CHECK.sentence("(or byte that is none", RulesEdgesTest::bytesThatAreNone);
        CHECK.sentence("a NUMBER of six digits)", RulesEdgesTest::sixDigits);
        CHECK.sentence("with which no text goes on", RulesEdgesTest::noTextGoesOn);
        CHECK.sentence("2 RANGE: an N out of its bounds", RulesEdgesTest::outOfBounds);
        CHECK.sentence("3 TWICE: a line's first WORD told already", RulesEdgesTest::toldAlready);
        CHECK.sentence("flat or falling behind the other one", RulesEdgesTest::flatAndFalling);
    }

    private static void promises() {
        CHECK.sentence("THE TAPE (read, and empty then) is RULES r", RulesEdgesTest::emptyThen);
        CHECK.sentence("how many lines", RulesEdgesTest::howManyLines);
        CHECK.sentence("RANGE: no such", RulesEdgesTest::noSuchRules);
        CHECK.sentence("NONE with a FAULT (the RULES stay)", RulesEdgesTest::rulesStay);
        CHECK.sentence("Of the latest rules() that was not RANGE", RulesEdgesTest::latestNotRange);
        CHECK.sentence("its FAULT's KIND, 0 without (and ahead of any)", RulesEdgesTest::kindWithout);
        CHECK.sentence("1: its PLACE (NONE)", RulesEdgesTest::placeWithout);
        CHECK.sentence("NONE for another what", RulesEdgesTest::anotherWhat);
        CHECK.sentence("3: flat (NONE), 4: falling (NONE)", RulesEdgesTest::flatOrFallingIsNone);
        CHECK.sentence("11: order (0 first, 1 small, 2 saved)", RulesEdgesTest::orderNumbers);
        CHECK.sentence("-9 when there is none such", RulesEdgesTest::noSuchRule);
    }

    private static void dueFault(String text, int kind, int place) {
        KeyBox box = new KeyBox();
        CHECK.due("rules of '" + text + "'", Check.tell(box, 2, text), NONE);
        CHECK.due("fault(0) of '" + text + "'", box.fault(0), kind);
        CHECK.due("fault(1) of '" + text + "'", box.fault(1), place);
    }

    private static void dueLines(String text, int lines) {
        KeyBox box = new KeyBox();
        CHECK.due("rules of '" + text + "'", Check.tell(box, 2, text), lines);
        CHECK.due("fault(0) of '" + text + "'", box.fault(0), 0);
    }

    private static void fourRules() {
        KeyBox box = new KeyBox();
        for (int r = 0; r < 4; r++) {
            CHECK.due("rules(" + r + ")", Check.tell(box, r, "stamp " + (r + 40) + ";"), 1);
        }
        for (int r = 0; r < 4; r++) {
            CHECK.due("stamp of RULES " + r, box.rule(r, 0), r + 40);
        }
        CHECK.due("rules(4)", Check.tell(box, 4, "stamp 9;"), KeyBox.RANGE);
        CHECK.due("rules(-1)", Check.tell(box, -1, "stamp 9;"), KeyBox.RANGE);
    }

    private static void textOf500() {
        KeyBox box = new KeyBox();
        CHECK.due("a line that ends with byte 500", Check.tell(box, 0, " ".repeat(492) + "turn 52;"), 1);
        CHECK.due("turn", box.rule(0, 10), 52);
        dueFault(" ".repeat(493) + "turn 52", SYNTAX, 500);
        dueFault("\n".repeat(499) + "!", SYNTAX, 499);
        dueFault("z".repeat(500), SYNTAX, 0);
    }

    private static void blanks() {
        dueLines("stamp12;most3;", 2);
        dueLines("\n \n  stamp\n\n12   ;\n \n", 1);
        for (int b = 0; b < 256; b++) {
            String text = "stamp" + (char) b + "12;";
            boolean isBlank = b == 32 || b == 10;
            boolean isDigit = b >= '0' && b <= '9';
            boolean isLetter = b >= 'a' && b <= 'z';
            if (isBlank || isDigit) {
                KeyBox box = new KeyBox();
                int value = isBlank ? 12 : (b - '0') * 100 + 12;
                CHECK.due("byte " + b + " between", Check.tell(box, 0, text), 1);
                CHECK.due("the number then", box.rule(0, 0), value);
            } else {
                dueFault(text, SYNTAX, isLetter ? 0 : 5);
            }
        }
    }

    private static void smallLetters() {
        dueFault("stampmost 3;", SYNTAX, 0);
        dueFault("stamps 3;", SYNTAX, 0);
        dueFault("stam p 3;", SYNTAX, 0);
        dueFault("orderfirst;", SYNTAX, 0);
        dueFault("order firstsmall;", SYNTAX, 6);
        dueFault("order firs t;", SYNTAX, 6);
        dueFault("STAMP 3;", SYNTAX, 0);
        dueFault("stAmp 3;", SYNTAX, 0);
        dueFault("order First;", SYNTAX, 6);
        dueFault("most 3;" + "most".repeat(100), SYNTAX, 7);
        dueLines("most3;stamp3;", 2);
    }

    private static void digits() {
        KeyBox box = new KeyBox();
        String[] alike = {"7", "07", "007", "0007", "00007"};
        for (String number : alike) {
            CHECK.due("most " + number, Check.tell(box, 0, "most " + number + ";"), 1);
            CHECK.due("is", box.rule(0, 1), 7);
        }
        CHECK.due("five digits", Check.tell(box, 0, "death 50000;"), 1);
        CHECK.due("are all read", box.rule(0, 9), 50000);
        dueFault("most 000007;", SYNTAX, 5);
        dueFault("death 050000;", SYNTAX, 6);
        dueFault("most 1 2;", SYNTAX, 7);
    }

    private static void linesOfAText() {
        dueLines("", 0);
        dueLines(" \n ", 0);
        dueLines("most 1;", 1);
        dueLines(EVERY_LINE, 11);
        dueFault(";", SYNTAX, 0);
        dueFault("most 1;;", SYNTAX, 7);
        dueFault("most 1", SYNTAX, 6);
        dueFault("most 1 turn 2;", SYNTAX, 7);
        dueFault(EVERY_LINE + ";", SYNTAX, EVERY_LINE.length());
    }

    private static void lineWithNumber(int topic) {
        String word = WORDS[topic];
        KeyBox box = new KeyBox();
        CHECK.due(word + " 9", Check.tell(box, 1, word + " 9;"), 1);
        CHECK.due(word, box.rule(1, topic), 9);
        for (int other = 0; other < 12; other++) {
            if (other != topic && (topic != 4 || other != 3)) {
                CHECK.due(WORDS[other] + " behind " + word, box.rule(1, other), UNTOLD[other]);
            }
        }
        dueFault(word, SYNTAX, word.length());
        dueFault(word + ";", SYNTAX, word.length());
        dueFault(word + " first;", SYNTAX, word.length() + 1);
        dueFault(word + " " + word + ";", SYNTAX, word.length() + 1);
        dueFault(word + "x 9;", SYNTAX, 0);
        dueFault("x" + word.substring(1) + " 9;", SYNTAX, 0);
        dueFault(word.substring(1) + " 9;", SYNTAX, 0);
        dueFault(word.substring(0, word.length() - 1) + " 9;", SYNTAX, 0);
        dueFault("9 " + word + ";", SYNTAX, 0);
    }

    private static void orders() {
        KeyBox box = new KeyBox();
        String[] orders = {"first", "small", "saved"};
        for (int order = 2; order >= 0; order--) {
            CHECK.due("order " + orders[order], Check.tell(box, 0, "order " + orders[order] + ";"), 1);
            CHECK.due("order", box.rule(0, 11), order);
            dueFault(orders[order] + ";", SYNTAX, 0);
            dueFault("order " + orders[order] + "x;", SYNTAX, 6);
            dueFault("order x" + orders[order].substring(1) + ";", SYNTAX, 6);
            dueFault("order " + orders[order].substring(1) + ";", SYNTAX, 6);
        }
        dueFault("order", SYNTAX, 5);
        dueFault("order;", SYNTAX, 5);
        dueFault("order 0;", SYNTAX, 6);
        dueFault("order first first;", SYNTAX, 12);
        dueFault("xrder first;", SYNTAX, 0);
        dueFault("order stamp;", SYNTAX, 6);
    }

    /** All other lines are told, and had been told of RULES that were otherwise before. */
    private static void untoldAmongTold(int topic) {
        KeyBox box = new KeyBox();
        Check.tell(box, 3, "falling 7;");
        Check.tell(box, 3, EVERY_LINE);
        StringBuilder others = new StringBuilder();
        for (String line : EVERY_LINE.split(";")) {
            others.append(line.startsWith(WORDS[topic] + " ") ? "" : line + ";");
        }
        CHECK.due("lines", Check.tell(box, 3, others.toString()), 10);
        int[] want = {1, 2, 3, 4, NONE, 5, 6, 7, 8, 9, 11, 2};
        want[topic] = UNTOLD[topic];
        CHECK.dueRow("RULES", Check.rule(box, 3), want);
    }

    private static void boundsOf(int topic, int least, int most) {
        String word = WORDS[topic] + " ";
        KeyBox box = new KeyBox();
        CHECK.due(word + least, Check.tell(box, 0, word + least + ";"), 1);
        CHECK.due(word + "is", box.rule(0, topic), least);
        CHECK.due(word + most, Check.tell(box, 0, word + most + ";"), 1);
        CHECK.due(word + "is", box.rule(0, topic), most);
        dueFault(word + (most + 1) + ";", OUT_OF_BOUNDS, word.length());
        dueFault(word + "99999;", OUT_OF_BOUNDS, word.length());
        if (least > 0) {
            dueFault(word + (least - 1) + ";", OUT_OF_BOUNDS, word.length());
        } else {
            dueFault(word + "-1;", SYNTAX, word.length());
        }
    }

    private static void placeIsTheFirstByte() {
        dueFault("  \n stamps", SYNTAX, 4);
        dueFault("most   99999;", OUT_OF_BOUNDS, 7);
        dueFault("most  999999;", SYNTAX, 6);
        dueFault("most 1; \n  most 2;", TWICE, 11);
        dueFault("most 1 turns", SYNTAX, 7);
        dueFault("most\u00ff", SYNTAX, 4);
    }

    private static void placeAtTheEnd() {
        dueFault("most", SYNTAX, 4);
        dueFault("most \n ", SYNTAX, 7);
        dueFault("most 1", SYNTAX, 6);
        dueFault("most 1  ", SYNTAX, 8);
        dueFault("order", SYNTAX, 5);
        dueFault("order saved\n", SYNTAX, 12);
        dueFault("late 1;most 2", SYNTAX, 13);
        dueFault(" ".repeat(496) + "most", SYNTAX, 500);
    }

    private static void firstComeTo() {
        dueFault("most 0 !", OUT_OF_BOUNDS, 5);
        dueFault("most 0", OUT_OF_BOUNDS, 5);
        dueFault("most 1;most", TWICE, 7);
        dueFault("most 1;most 0;", TWICE, 7);
        dueFault("most 1;most !", TWICE, 7);
        dueFault("most 0;most 1;", OUT_OF_BOUNDS, 5);
        dueFault("most 1;turn 0;most 1;", OUT_OF_BOUNDS, 12);
        dueFault("most 1;! turn 0;", SYNTAX, 7);
        dueFault("! most 0;", SYNTAX, 0);
        dueFault("flat 1;falling 51;", TWICE, 7);
    }

    private static void leastKind() {
        dueFault("most 100000;", SYNTAX, 5);
        dueFault("stamp 000000;", SYNTAX, 6);
        dueFault("most 1 100000", SYNTAX, 7);
        dueFault("most 1 99999", SYNTAX, 7);
        dueFault("most 1;turn most;", SYNTAX, 12);
        dueFault("most 1 most 1;", SYNTAX, 7);
    }

    private static void wrongTokens() {
        dueFault("7;", SYNTAX, 0);
        dueFault(";", SYNTAX, 0);
        dueFault("first;", SYNTAX, 0);
        dueFault("word 7;", SYNTAX, 0);
        dueFault("most most;", SYNTAX, 5);
        dueFault("most ;", SYNTAX, 5);
        dueFault("most 7 7;", SYNTAX, 7);
        dueFault("most 7 most;", SYNTAX, 7);
        dueFault("order 7;", SYNTAX, 6);
        dueFault("order ;", SYNTAX, 6);
        dueFault("order most;", SYNTAX, 6);
    }

    private static void bytesThatAreNone() {
        for (int b = 0; b < 256; b++) {
            boolean ofToken = b >= 'a' && b <= 'z' || b >= '0' && b <= '9' || b == ';' || b == ' ' || b == '\n';
            if (!ofToken) {
                dueFault((char) b + "most 1;", SYNTAX, 0);
                dueFault("most 1" + (char) b + ";", SYNTAX, 6);
            }
        }
        dueFault("most 1;.", SYNTAX, 7);
        dueFault("most \u00b1;", SYNTAX, 5);
        dueFault("order \u00e6;", SYNTAX, 6);
    }

    private static void sixDigits() {
        dueFault("death 123456;", SYNTAX, 6);
        dueFault("death 000001;", SYNTAX, 6);
        dueFault("death 1234567;", SYNTAX, 6);
        dueFault("death 4294967297;", SYNTAX, 6);
        dueFault("death " + "0".repeat(400) + ";", SYNTAX, 6);
        dueFault("123456", SYNTAX, 0);
        dueFault("order 123456;", SYNTAX, 6);
        dueLines("death 12345;", 1);
    }

    private static void noTextGoesOn() {
        // What could go on is no fault: the next TOKEN, or the end, is.
        dueFault("most 1;turn", SYNTAX, 11);
        dueFault("most 1;turn 1", SYNTAX, 13);
        dueFault("most 1;turn 1;x", SYNTAX, 14);
        dueFault("falling 1;order small stamp", SYNTAX, 22);
    }

    private static void outOfBounds() {
        dueFault("turn 0;", OUT_OF_BOUNDS, 5);
        dueFault("turn 53;", OUT_OF_BOUNDS, 5);
        dueFault("turn 00000;", OUT_OF_BOUNDS, 5);
        dueFault("turn 65537;", OUT_OF_BOUNDS, 5);
        dueFault("late 1001;", OUT_OF_BOUNDS, 5);
        dueFault("most 9;weeks 41;", OUT_OF_BOUNDS, 13);
    }

    private static void toldAlready() {
        for (int one = 0; one < WORDS.length; one++) {
            String line = WORDS[one] + (one == 11 ? " small;" : " 9;");
            dueFault(line + line, TWICE, line.length());
            String others = linesBeside(one);
            dueFault(line + others + WORDS[one], TWICE, line.length() + others.length());
        }
    }

    /** Every line but the one's, of flat and falling one at most. */
    private static String linesBeside(int one) {
        StringBuilder lines = new StringBuilder();
        for (int other = 0; other < WORDS.length; other++) {
            boolean flatBesideFalling = other == 3 && one == 4;
            if (other != one && other != 4 && !flatBesideFalling) {
                lines.append(WORDS[other]).append(other == 11 ? " first;" : " 1;");
            }
        }
        return lines.toString();
    }

    private static void flatAndFalling() {
        dueFault("flat 1;falling 1;", TWICE, 7);
        dueFault("falling 1;flat 1;", TWICE, 10);
        dueFault("flat 0;falling", TWICE, 7);
        dueFault("falling 0;most 3;flat", TWICE, 17);
        KeyBox box = new KeyBox();
        Check.tell(box, 0, "flat 1;");
        CHECK.due("in a text of its own", Check.tell(box, 0, "falling 1;"), 1);
        CHECK.due("and back", Check.tell(box, 0, "flat 1;"), 1);
    }

    private static void emptyThen() {
        KeyBox box = new KeyBox();
        Check.tell(box, 1, "most 3;");
        CHECK.due("RULES 1", box.rule(1, 1), 3);
        CHECK.due("bytes", box.count(3), 0);
        CHECK.due("end(1)", box.end(1), NONE);
        CHECK.due("read again it is an empty text", box.rules(1), 0);
        CHECK.due("RULES 1 are as untold ones", box.rule(1, 1), 5);
        Check.tell(box, 1, "most 3;!");
        CHECK.due("bytes behind a FAULT", box.count(3), 0);
        CHECK.due("a feed starts at its first byte", box.feed(0x7475726e, 0x20373b20, 0, 0, 0), 20);
        box.end(8);
        CHECK.due("lines", box.rules(1), 1);
        CHECK.due("turn", box.rule(1, 10), 7);
    }

    private static void howManyLines() {
        KeyBox box = new KeyBox();
        String[] lines = EVERY_LINE.split(";");
        String text = "";
        CHECK.due("no line", Check.tell(box, 0, text), 0);
        for (int i = 0; i < lines.length; i++) {
            text += lines[i] + " ;\n";
            CHECK.due("lines", Check.tell(box, 0, text), i + 1);
        }
    }

    private static void noSuchRules() {
        KeyBox box = new KeyBox();
        for (int r : new int[] {-1, 4, MIN, MAX}) {
            Check.write(box, "most 3;");
            CHECK.due("rules(" + r + ")", box.rules(r), KeyBox.RANGE);
            CHECK.due("THE TAPE is not read", box.count(3), 7);
            Check.write(box, "!");
            CHECK.due("rules(" + r + ") of a wrong text", box.rules(r), KeyBox.RANGE);
            CHECK.due("no FAULT is told", box.fault(0), 0);
        }
        for (int r = 0; r < 4; r++) {
            CHECK.dueRow("RULES " + r, Check.rule(box, r), UNTOLD);
        }
    }

    private static void rulesStay() {
        String[] wrong = {"most 7;turn", "most 7;turn 0;", "most 7;most 8;", "!", "falling 3;flat 4;"};
        for (String text : wrong) {
            KeyBox box = new KeyBox();
            Check.tell(box, 3, EVERY_LINE);
            CHECK.due("rules of '" + text + "'", Check.tell(box, 3, text), NONE);
            CHECK.dueRow("RULES", Check.rule(box, 3), 1, 2, 3, 4, NONE, 5, 6, 7, 8, 9, 11, 2);
            CHECK.dueRow("RULES that were not meant", Check.rule(box, 2), UNTOLD);
        }
    }

    private static void latestNotRange() {
        KeyBox box = new KeyBox();
        Check.tell(box, 0, "  most 0;");
        Check.tell(box, 4, "");
        Check.tell(box, -1, "!");
        CHECK.due("KIND, RANGE behind it", box.fault(0), OUT_OF_BOUNDS);
        CHECK.due("PLACE, RANGE behind it", box.fault(1), 7);
        Check.tell(box, 1, "most 1; most");
        CHECK.due("KIND of the latest", box.fault(0), TWICE);
        CHECK.due("PLACE of the latest", box.fault(1), 8);
    }

    private static void kindWithout() {
        KeyBox box = new KeyBox();
        CHECK.due("ahead of any", box.fault(0), 0);
        Check.tell(box, 0, "!");
        CHECK.due("with one", box.fault(0), SYNTAX);
        Check.tell(box, 0, "");
        CHECK.due("without", box.fault(0), 0);
    }

    private static void placeWithout() {
        KeyBox box = new KeyBox();
        CHECK.due("ahead of any", box.fault(1), NONE);
        Check.tell(box, 0, "!");
        CHECK.due("with one", box.fault(1), 0);
        Check.tell(box, 0, "most 1;");
        CHECK.due("without", box.fault(1), NONE);
    }

    private static void anotherWhat() {
        KeyBox box = new KeyBox();
        for (int what : new int[] {-1, 2, 3, MIN, MAX}) {
            CHECK.due("fault(" + what + ") ahead of any", box.fault(what), NONE);
            Check.tell(box, 0, "most !");
            CHECK.due("fault(" + what + ") with one", box.fault(what), NONE);
        }
    }

    private static void flatOrFallingIsNone() {
        KeyBox box = new KeyBox();
        CHECK.due("falling of untold ones", box.rule(0, 4), NONE);
        Check.tell(box, 0, "falling 0;");
        CHECK.due("flat", box.rule(0, 3), NONE);
        CHECK.due("falling", box.rule(0, 4), 0);
        Check.tell(box, 0, "flat 0;");
        CHECK.due("flat", box.rule(0, 3), 0);
        CHECK.due("falling", box.rule(0, 4), NONE);
        Check.tell(box, 0, "falling 50;");
        Check.tell(box, 0, "");
        CHECK.due("flat, untold", box.rule(0, 3), 10);
        CHECK.due("falling, untold", box.rule(0, 4), NONE);
    }

    private static void orderNumbers() {
        KeyBox box = new KeyBox();
        CHECK.due("untold", box.rule(2, 11), 0);
        Check.tell(box, 2, "order saved;");
        CHECK.due("saved", box.rule(2, 11), 2);
        Check.tell(box, 2, "order small;");
        CHECK.due("small", box.rule(2, 11), 1);
        Check.tell(box, 2, "order first;");
        CHECK.due("first", box.rule(2, 11), 0);
    }

    private static void noSuchRule() {
        KeyBox box = new KeyBox();
        for (int none : new int[] {-1, 12, 13, MIN, MAX}) {
            CHECK.due("rule(0, " + none + ")", box.rule(0, none), -9);
            CHECK.due("rule(3, " + none + ")", box.rule(3, none), -9);
            CHECK.due("rule(" + none + ", 0)", box.rule(none, 0), -9);
        }
        CHECK.due("rule(4, 0)", box.rule(4, 0), -9);
        CHECK.due("rule(3, 11)", box.rule(3, 11), 0);
    }
}
