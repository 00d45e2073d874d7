/** Promises 1 and 4 to 8: a new object, members, meet, enter, entry, back. */
public final class LogTest {
    private static final Check CHECK = new Check();
    private static final int MIN = Integer.MIN_VALUE;
    private static final int MAX = Integer.MAX_VALUE;

    public static void main(String[] args) {
        newObject();
        membersHasBounds();
        membersWaitsForAnEmptyLog();
        meetHasBounds();
        meetTakesBitsByMembers();
        enterHasBounds();
        enterSaysRangeAheadOfStateAheadOfFull();
        entryTellsWhatWasEntered();
        backTakesTheLatest();
        logIsFullAt300();
        CHECK.finish();
    }

    private static void newObject() {
        KeyBox box = new KeyBox();
        CHECK.due("count(0)", box.count(0), 3);
        CHECK.due("count(1)", box.count(1), 0);
        CHECK.due("count(2)", box.count(2), 0);
        CHECK.due("count(3)", box.count(3), 0);
        CHECK.due("count(4)", box.count(4), KeyBox.NONE);
        CHECK.due("entry(0, 0)", box.entry(0, 0), -9);
        CHECK.due("back()", box.back(), KeyBox.STATE);
        CHECK.due("meet, bits of three", box.meet(0, 7), 0);
        CHECK.due("meet, bits of four", new KeyBox().meet(0, 8), KeyBox.RANGE);
    }

    private static void membersHasBounds() {
        KeyBox box = new KeyBox();
        CHECK.due("members(2)", box.members(2), KeyBox.RANGE);
        CHECK.due("members(25)", box.members(25), KeyBox.RANGE);
        CHECK.due("members(least)", box.members(MIN), KeyBox.RANGE);
        CHECK.due("members(most)", box.members(MAX), KeyBox.RANGE);
        CHECK.due("count(0)", box.count(0), 3);
        CHECK.due("members(24)", box.members(24), 1);
        CHECK.due("count(0)", box.count(0), 24);
        CHECK.due("members(3)", box.members(3), 1);
        CHECK.due("count(0)", box.count(0), 3);
    }

    private static void membersWaitsForAnEmptyLog() {
        KeyBox box = new KeyBox();
        box.meet(5, 7);
        CHECK.due("members(4)", box.members(4), KeyBox.STATE);
        CHECK.due("members(3)", box.members(3), KeyBox.STATE);
        CHECK.due("members(99)", box.members(99), KeyBox.RANGE);
        box.back();
        CHECK.due("members(4) behind back()", box.members(4), 1);
        CHECK.due("count(0)", box.count(0), 4);
    }

    private static void meetHasBounds() {
        KeyBox box = new KeyBox();
        CHECK.due("meet(-1, 7)", box.meet(-1, 7), KeyBox.RANGE);
        CHECK.due("meet(52, 7)", box.meet(52, 7), KeyBox.RANGE);
        CHECK.due("meet(least, 7)", box.meet(MIN, 7), KeyBox.RANGE);
        CHECK.due("meet(most, 7)", box.meet(MAX, 7), KeyBox.RANGE);
        CHECK.due("count(1)", box.count(1), 0);
        CHECK.due("meet(3, 0)", box.meet(3, 0), 0);
        CHECK.due("meet(3, 7), the same week", box.meet(3, 7), KeyBox.RANGE);
        CHECK.due("meet(2, 7), an earlier week", box.meet(2, 7), KeyBox.RANGE);
        CHECK.due("meet(4, 7)", box.meet(4, 7), 1);
        CHECK.due("meet(51, 7)", box.meet(51, 7), 2);
        CHECK.due("count(2)", box.count(2), 3);
        box.back();
        CHECK.due("meet(50, 7) behind back()", box.meet(50, 7), 2);
    }

    private static void meetTakesBitsByMembers() {
        KeyBox box = new KeyBox();
        box.members(24);
        CHECK.due("meet(0, 1 << 24)", box.meet(0, 1 << 24), KeyBox.RANGE);
        CHECK.due("meet(0, -1)", box.meet(0, -1), KeyBox.RANGE);
        CHECK.due("meet(0, least)", box.meet(0, MIN), KeyBox.RANGE);
        CHECK.due("meet(0, all)", box.meet(0, (1 << 24) - 1), 0);
        CHECK.due("entry(0, 2)", box.entry(0, 2), (1 << 24) - 1);
    }

    private static void enterHasBounds() {
        KeyBox box = new KeyBox();
        box.members(5);
        box.meet(0, 31);
        int[] least = {0, 1, 1, 1, 1, 0, 0, 1};
        int[] most = {0, 9, 100000, 100000, 1000, 0, 0, 1000000};
        int at = 1;
        for (int kind = 1; kind <= 7; kind++) {
            int m = kind == 7 ? 0 : 4;
            CHECK.due("below, kind " + kind, box.enter(kind, m, least[kind] - 1), KeyBox.RANGE);
            CHECK.due("above, kind " + kind, box.enter(kind, m, most[kind] + 1), KeyBox.RANGE);
            CHECK.due("n least, kind " + kind, box.enter(kind, m, MIN), KeyBox.RANGE);
            CHECK.due("n most, kind " + kind, box.enter(kind, m, MAX), KeyBox.RANGE);
            CHECK.due("no MEMBER, kind " + kind, box.enter(kind, 5, most[kind]), KeyBox.RANGE);
            CHECK.due("MEMBER -1, kind " + kind, box.enter(kind, -1, most[kind]), KeyBox.RANGE);
            CHECK.due("at least, kind " + kind, box.enter(kind, m, least[kind]), at++);
            CHECK.due("at most, kind " + kind, box.enter(kind, m, most[kind]), at++);
        }
        CHECK.due("ROBBED with a MEMBER", box.enter(7, 1, 5), KeyBox.RANGE);
        CHECK.due("kind 0", box.enter(0, 0, 0), KeyBox.RANGE);
        CHECK.due("kind 8", box.enter(8, 0, 1), KeyBox.RANGE);
        CHECK.due("kind least", box.enter(MIN, 0, 1), KeyBox.RANGE);
        CHECK.due("kind most", box.enter(MAX, 0, 1), KeyBox.RANGE);
        CHECK.due("count(1)", box.count(1), at);
    }

    private static void enterSaysRangeAheadOfStateAheadOfFull() {
        KeyBox box = new KeyBox();
        CHECK.due("wrong n without a MEETING", box.enter(1, 0, 10), KeyBox.RANGE);
        CHECK.due("without a MEETING", box.enter(1, 0, 9), KeyBox.STATE);
        CHECK.due("ROBBED without a MEETING", box.enter(7, 0, 9), KeyBox.STATE);
        box.meet(0, 7);
        box.back();
        CHECK.due("its MEETING taken back", box.enter(1, 0, 9), KeyBox.STATE);
    }

    private static void entryTellsWhatWasEntered() {
        KeyBox box = new KeyBox();
        box.meet(9, 5);
        box.enter(2, 1, 4321);
        box.enter(7, 0, 1000000);
        box.enter(5, 2, 0);
        int[][] want = {{0, 9, 5}, {2, 1, 4321}, {7, 0, 1000000}, {5, 2, 0}};
        for (int i = 0; i < want.length; i++) {
            for (int what = 0; what < 3; what++) {
                CHECK.due("entry(" + i + ", " + what + ")", box.entry(i, what), want[i][what]);
            }
        }
        int[][] none = {{4, 0}, {-1, 0}, {0, 3}, {0, -1}, {MIN, 0}, {MAX, 0}, {0, MIN}, {0, MAX}};
        for (int[] call : none) {
            CHECK.due("entry(" + call[0] + ", " + call[1] + ")", box.entry(call[0], call[1]), -9);
        }
    }

    private static void backTakesTheLatest() {
        KeyBox box = new KeyBox();
        box.meet(1, 7);
        box.enter(1, 0, 1);
        box.meet(2, 7);
        CHECK.due("back()", box.back(), 2);
        CHECK.due("count(2)", box.count(2), 1);
        CHECK.due("entry(2, 0)", box.entry(2, 0), -9);
        CHECK.due("enter of the week before", box.enter(4, 1, 10), 2);
        CHECK.due("back()", box.back(), 2);
        CHECK.due("back()", box.back(), 1);
        CHECK.due("count(2)", box.count(2), 1);
        CHECK.due("back()", box.back(), 0);
        CHECK.due("back() of none", box.back(), KeyBox.STATE);
        CHECK.due("meet(0, 7), no week is before it now", box.meet(0, 7), 0);
    }

    private static void logIsFullAt300() {
        KeyBox box = new KeyBox();
        box.meet(0, 7);
        for (int i = 1; i < 300; i++) {
            CHECK.due("enter", box.enter(4, 0, i), i);
        }
        CHECK.due("enter of a 301st", box.enter(4, 0, 1), KeyBox.FULL);
        CHECK.due("wrong enter of a 301st", box.enter(4, 3, 1), KeyBox.RANGE);
        CHECK.due("meet of a 301st", box.meet(1, 7), KeyBox.FULL);
        CHECK.due("wrong meet of a 301st", box.meet(0, 7), KeyBox.RANGE);
        CHECK.due("count(1)", box.count(1), 300);
        CHECK.due("count(2)", box.count(2), 1);
        CHECK.due("entry(299, 2)", box.entry(299, 2), 299);
        CHECK.due("back()", box.back(), 299);
        CHECK.due("meet", box.meet(1, 7), 299);
        CHECK.due("count(2)", box.count(2), 2);
    }
}
