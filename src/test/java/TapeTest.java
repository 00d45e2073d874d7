/** Promises 2 and 3: feed, end. */
public final class TapeTest {
    private static final Check CHECK = new Check();

    public static void main(String[] args) {
        feedCountsBytesUpToItsRoom();
        feedPutsTheHighestByteFirst();
        feedGoesOnBehindWhatIsThere();
        endKeepsTheFirstBytes();
        endRefusesWhatIsNotThere();
        fullFeedChangesNothing();
        CHECK.finish();
    }

    private static void feedCountsBytesUpToItsRoom() {
        KeyBox box = new KeyBox();
        for (int n = 20; n <= 500; n += 20) {
            CHECK.due("feed", box.feed(1, 2, 3, 4, 5), n);
        }
        CHECK.due("feed beyond 500", box.feed(1, 2, 3, 4, 5), KeyBox.FULL);
        CHECK.due("count(3)", box.count(3), 500);
        CHECK.due("end(481)", box.end(481), 481);
        CHECK.due("feed to 501", box.feed(1, 2, 3, 4, 5), KeyBox.FULL);
        CHECK.due("end(480)", box.end(480), 480);
        CHECK.due("feed to 500", box.feed(1, 2, 3, 4, 5), 500);
    }

    private static void feedPutsTheHighestByteFirst() {
        KeyBox box = new KeyBox();
        // "loan", " 45 ", ";   ", "most", " 2; ", each int's highest byte being its first letter
        box.feed(0x6c6f616e, 0x20343520, 0x3b202020, 0x6d6f7374, 0x20323b20);
        CHECK.due("rules", box.rules(0), 2);
        CHECK.due("loan", box.rule(0, 2), 45);
        CHECK.due("most", box.rule(0, 1), 2);
    }

    private static void feedGoesOnBehindWhatIsThere() {
        KeyBox box = new KeyBox();
        box.feed(0x7475726e, 0x20313030, 0x30303030, 0x30303030, 0x30303030);
        CHECK.due("end(6)", box.end(6), 6);
        // "turn 1" goes on with "7;"
        CHECK.due("feed", box.feed(0x373b2020, 0x20202020, 0x20202020, 0x20202020, 0x20202020), 26);
        CHECK.due("rules", box.rules(3), 1);
        CHECK.due("turn", box.rule(3, 10), 17);
    }

    private static void endKeepsTheFirstBytes() {
        KeyBox box = new KeyBox();
        CHECK.due("end(0) of none", box.end(0), 0);
        box.feed(0, 0, 0, 0, 0);
        CHECK.due("end(20)", box.end(20), 20);
        CHECK.due("end(7)", box.end(7), 7);
        CHECK.due("count(3)", box.count(3), 7);
        CHECK.due("end(8)", box.end(8), KeyBox.NONE);
        CHECK.due("end(0)", box.end(0), 0);
        CHECK.due("count(3)", box.count(3), 0);
    }

    private static void endRefusesWhatIsNotThere() {
        KeyBox box = new KeyBox();
        CHECK.due("end(1)", box.end(1), KeyBox.NONE);
        box.feed(0, 0, 0, 0, 0);
        CHECK.due("end(21)", box.end(21), KeyBox.NONE);
        CHECK.due("end(-1)", box.end(-1), KeyBox.NONE);
        CHECK.due("end(least)", box.end(Integer.MIN_VALUE), KeyBox.NONE);
        CHECK.due("end(most)", box.end(Integer.MAX_VALUE), KeyBox.NONE);
        CHECK.due("count(3)", box.count(3), 20);
    }

    private static void fullFeedChangesNothing() {
        KeyBox box = new KeyBox();
        Check.write(box, "stamp 77;" + " ".repeat(491));
        CHECK.due("feed", box.feed(-1, -1, -1, -1, -1), KeyBox.FULL);
        CHECK.due("rules", box.rules(1), 1);
        CHECK.due("stamp", box.rule(1, 0), 77);
    }
}
