/** Promises 9 to 11: rules, fault, rule. */
public final class RulesTest {
    private static final Check CHECK = new Check();

    public static void main(String[] args) {
        aheadOfAnyText();
        everyLineIsRead();
        whatIsNotToldIsAsUntold();
        tokensNeedNoBlanks();
        rulesRefuseNumbersThatAreNone();
        tapeIsEmptyThen();
        boundsOfEachNumber();
        syntaxFaults();
        twiceFaults();
        theFirstFaultCounts();
        faultIsOfTheLatest();
        rulesStayWithAFault();
        ruleRefusesWhatThereIsNot();
        longTexts();
        CHECK.finish();
    }

    private static void aheadOfAnyText() {
        KeyBox box = new KeyBox();
        for (int r = 0; r < 4; r++) {
            CHECK.dueRow("RULES " + r, Check.rule(box, r), 10, 5, 300, 10, -1, 12, 0, 0, 1, 100, 4, 0);
        }
        CHECK.due("fault(0)", box.fault(0), 0);
        CHECK.due("fault(1)", box.fault(1), KeyBox.NONE);
    }

    private static void everyLineIsRead() {
        KeyBox box = new KeyBox();
        String text = "order small; turn 52; death 50000; social 7; absent 8; late 9;\n"
                + "weeks 40; flat 50; loan 900; most 9; stamp 1000;";
        CHECK.due("rules(3)", Check.tell(box, 3, text), 11);
        CHECK.dueRow("RULES 3", Check.rule(box, 3), 1000, 9, 900, 50, -1, 40, 9, 8, 7, 50000, 52, 1);
        CHECK.due("RULES 2 are untouched", box.rule(2, 0), 10);
        CHECK.due("falling", Check.tell(box, 0, "falling 0;order saved;"), 2);
        CHECK.dueRow("RULES 0", Check.rule(box, 0), 10, 5, 300, -1, 0, 12, 0, 0, 1, 100, 4, 2);
        CHECK.due("order first", Check.tell(box, 0, "order first;"), 1);
        CHECK.due("order", box.rule(0, 11), 0);
    }

    private static void whatIsNotToldIsAsUntold() {
        KeyBox box = new KeyBox();
        Check.tell(box, 1, "stamp 33; falling 3; order saved;");
        CHECK.due("rules(1)", Check.tell(box, 1, "most 2;"), 1);
        CHECK.dueRow("RULES 1", Check.rule(box, 1), 10, 2, 300, 10, -1, 12, 0, 0, 1, 100, 4, 0);
        Check.tell(box, 1, "stamp 33;");
        CHECK.due("an empty text", Check.tell(box, 1, ""), 0);
        CHECK.due("stamp", box.rule(1, 0), 10);
        Check.tell(box, 1, "stamp 33;");
        CHECK.due("blanks alone", Check.tell(box, 1, " \n \n"), 0);
        CHECK.due("stamp", box.rule(1, 0), 10);
    }

    private static void tokensNeedNoBlanks() {
        KeyBox box = new KeyBox();
        CHECK.due("none", Check.tell(box, 0, "stamp12;most3;order\nsaved;"), 3);
        CHECK.due("stamp", box.rule(0, 0), 12);
        CHECK.due("most", box.rule(0, 1), 3);
        CHECK.due("many", Check.tell(box, 0, "\n\n stamp \n 00012 \n ; "), 1);
        CHECK.due("stamp, five digits", box.rule(0, 0), 12);
    }

    private static void rulesRefuseNumbersThatAreNone() {
        KeyBox box = new KeyBox();
        for (int r : new int[] {-1, 4, Integer.MIN_VALUE, Integer.MAX_VALUE}) {
            Check.write(box, "stamp 5;");
            CHECK.due("rules(" + r + ")", box.rules(r), KeyBox.RANGE);
            CHECK.due("the tape stays", box.count(3), 8);
        }
        CHECK.due("it can be read still", box.rules(0), 1);
    }

    private static void tapeIsEmptyThen() {
        KeyBox box = new KeyBox();
        Check.tell(box, 0, "stamp 5;");
        CHECK.due("behind rules", box.count(3), 0);
        Check.tell(box, 0, "stamp;");
        CHECK.due("behind a FAULT", box.count(3), 0);
        CHECK.due("an empty tape read", box.rules(0), 0);
    }

    private static void boundsOfEachNumber() {
        String[] words = {"stamp", "most", "loan", "flat", "falling", "weeks", "late", "absent", "social", "death", "turn"};
        int[] least = {1, 1, 0, 0, 0, 1, 0, 0, 0, 0, 1};
        int[] most = {1000, 9, 900, 50, 50, 40, 1000, 1000, 1000, 50000, 52};
        KeyBox box = new KeyBox();
        for (int i = 0; i < words.length; i++) {
            CHECK.due(words[i] + " least", Check.tell(box, 0, words[i] + " " + least[i] + ";"), 1);
            CHECK.due(words[i] + " is", box.rule(0, i), least[i]);
            CHECK.due(words[i] + " most", Check.tell(box, 0, words[i] + " " + most[i] + ";"), 1);
            CHECK.due(words[i] + " is", box.rule(0, i), most[i]);
            dueFault(words[i] + " " + (most[i] + 1) + ";", 2, words[i].length() + 1);
            if (least[i] > 0) {
                dueFault(words[i] + "  0;", 2, words[i].length() + 2);
            }
        }
        dueFault("death 99999;", 2, 6);
    }

    private static void syntaxFaults() {
        dueFault("stamp", 1, 5);
        dueFault("stamp  \n", 1, 8);
        dueFault("stamp 10", 1, 8);
        dueFault("stamp 10 most 3;", 1, 9);
        dueFault("stamp ;", 1, 6);
        dueFault("stamp ten;", 1, 6);
        dueFault("stamps 10;", 1, 0);
        dueFault("stam 10;", 1, 0);
        dueFault("xtamp 10;", 1, 0);
        dueFault("stampz 10;", 1, 0);
        dueFault("stampa 10;", 1, 0);
        dueFault("stampmost 1;", 1, 0);
        dueFault("Stamp 10;", 1, 0);
        dueFault(";", 1, 0);
        dueFault(" \n;", 1, 2);
        dueFault("stamp 10;;", 1, 9);
        dueFault("10;", 1, 0);
        dueFault("first;", 1, 0);
        dueFault("order 1;", 1, 6);
        dueFault("order large;", 1, 6);
        dueFault("order order;", 1, 6);
        dueFault("order stamp;", 1, 6);
        dueFault("order", 1, 5);
        dueFault("order first", 1, 11);
        dueFault("order first small;", 1, 12);
        dueFault("stamp 000010;", 1, 6);
        dueFault("stamp 123456789012345678901234567890;", 1, 6);
        dueFault("stamp -1;", 1, 6);
        dueFault("stamp 1.5;", 1, 7);
        dueFault("stamp\t10;", 1, 5);
        dueFault("stamp 10;\r\n", 1, 9);
        dueFault("stamp 1\0;", 1, 7);
        dueFault("\u00f3stamp 1;", 1, 0);
        dueFault("stamp 1\u00bb", 1, 7);
        dueFault("`", 1, 0);
        dueFault("{", 1, 0);
        dueFault("stamp 1/", 1, 7);
        dueFault("stamp 1:", 1, 7);
    }

    private static void twiceFaults() {
        dueFault("most 1; most 1;", 3, 8);
        dueFault("order first;order first;", 3, 12);
        dueFault("flat 1;falling 1;", 3, 7);
        dueFault("falling 1;flat 1;", 3, 10);
        dueFault("flat 1;flat 1;", 3, 7);
        dueFault("falling 1;falling 1;", 3, 10);
        dueFault("turn 1;most 2;turn", 3, 14);
    }

    private static void theFirstFaultCounts() {
        dueFault("stamp 0; most;", 2, 6);
        dueFault("stamp 0!", 2, 6);
        dueFault("most 1;most 99;", 3, 7);
        dueFault("most 99;most 1;", 2, 5);
        dueFault("stamp 100000", 1, 6);
        dueFault("stamp 1 ! most 99;", 1, 8);
    }

    private static void dueFault(String text, int kind, int place) {
        KeyBox box = new KeyBox();
        CHECK.due("rules of '" + text + "'", Check.tell(box, 2, text), KeyBox.NONE);
        CHECK.due("fault(0) of '" + text + "'", box.fault(0), kind);
        CHECK.due("fault(1) of '" + text + "'", box.fault(1), place);
    }

    private static void faultIsOfTheLatest() {
        KeyBox box = new KeyBox();
        Check.tell(box, 0, "most 0;");
        box.rules(4);
        box.rules(-1);
        CHECK.due("fault(0) stays behind a RANGE", box.fault(0), 2);
        CHECK.due("fault(1) stays behind a RANGE", box.fault(1), 5);
        for (int what : new int[] {-1, 2, Integer.MIN_VALUE, Integer.MAX_VALUE}) {
            CHECK.due("fault(" + what + ")", box.fault(what), KeyBox.NONE);
        }
        Check.tell(box, 1, "most 1;");
        CHECK.due("fault(0) behind a good text", box.fault(0), 0);
        CHECK.due("fault(1) behind a good text", box.fault(1), KeyBox.NONE);
    }

    private static void rulesStayWithAFault() {
        KeyBox box = new KeyBox();
        Check.tell(box, 2, "stamp 44; falling 6;");
        CHECK.due("a FAULT at the end", Check.tell(box, 2, "stamp 55; most 3; flat 4; turn 9"), KeyBox.NONE);
        CHECK.dueRow("RULES 2", Check.rule(box, 2), 44, 5, 300, -1, 6, 12, 0, 0, 1, 100, 4, 0);
    }

    private static void ruleRefusesWhatThereIsNot() {
        KeyBox box = new KeyBox();
        int[][] none = {{-1, 0}, {4, 0}, {0, -1}, {0, 12}, {Integer.MIN_VALUE, 0}, {Integer.MAX_VALUE, 0},
            {0, Integer.MIN_VALUE}, {0, Integer.MAX_VALUE}};
        for (int[] call : none) {
            CHECK.due("rule(" + call[0] + ", " + call[1] + ")", box.rule(call[0], call[1]), -9);
        }
    }

    private static void longTexts() {
        KeyBox box = new KeyBox();
        String text = " ".repeat(493) + "most 4;";
        CHECK.due("500 bytes", Check.tell(box, 0, text), 1);
        CHECK.due("most", box.rule(0, 1), 4);
        CHECK.due("500 letters", Check.tell(box, 0, "a".repeat(500)), KeyBox.NONE);
        CHECK.due("its place", box.fault(1), 0);
        CHECK.due("500 digits", Check.tell(box, 0, "loan" + "0".repeat(496)), KeyBox.NONE);
        CHECK.due("its place", box.fault(1), 4);
        CHECK.due("cut at 500", Check.tell(box, 0, " ".repeat(496) + "loan"), KeyBox.NONE);
        CHECK.due("its place", box.fault(1), 500);
    }
}
