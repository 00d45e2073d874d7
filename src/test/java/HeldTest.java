/** Promises 16 to 18: parts, gains, count. */
public final class HeldTest {
    private static final Check CHECK = new Check();
    private static final int NO_GAIN = -2000000000;

    public static void main(String[] args) {
        partsByBox();
        partsByFund();
        partsByWhatSomebodyOwes();
        partsNowhere();
        partsRefuses();
        gainsOfStampsAndDues();
        gainsOfLoans();
        gainsOfTheGone();
        gainsRefuses();
        latestPlayStays();
        counts();
        CHECK.finish();
    }

    private static KeyBox group(int members, String one, String other) {
        KeyBox box = new KeyBox();
        box.members(members);
        Check.tell(box, 0, one);
        CHECK.due("'" + one + "' is right", box.fault(0), 0);
        Check.tell(box, 1, other);
        CHECK.due("'" + other + "' is right", box.fault(0), 0);
        return box;
    }

    private static void dueParts(String what, KeyBox box, int want) {
        CHECK.due(what, box.parts(0, 1), want);
        CHECK.due(what + ", the other way", box.parts(1, 0), want);
    }

    private static void partsByBox() {
        KeyBox box = group(3, "stamp 10;", "stamp 11;");
        box.meet(3, 7);
        dueParts("nothing is bought", box, KeyBox.NONE);
        box.meet(9, 7);
        box.enter(1, 0, 1);
        box.meet(12, 7);
        dueParts("the BOX is unlike", box, 1);
    }

    private static void partsByFund() {
        KeyBox box = group(4, "death 2; turn 52;", "death 3; turn 52;");
        box.meet(3, 15);
        dueParts("the FUND is alike", box, KeyBox.NONE);
        box.meet(4, 15);
        box.enter(5, 3, 0);
        dueParts("the FUND is unlike", box, 1);
    }

    private static void partsByWhatSomebodyOwes() {
        KeyBox box = group(4, "flat 10; weeks 4;", "flat 20; weeks 4;");
        box.meet(0, 15);
        box.enter(1, 0, 1);
        dueParts("no loan", box, KeyBox.NONE);
        box.meet(1, 15);
        box.enter(2, 0, 4);
        dueParts("no interest is put to 4 pence", box, KeyBox.NONE);
        box.meet(2, 15);
        box.enter(3, 0, 4);
        box.enter(2, 0, 9);
        dueParts("interest of 0 and 1", box, 2);

        // All that is owed is alike, but not who owes it.
        KeyBox who = group(4, "order first; flat 0;", "order saved; flat 0;");
        who.meet(0, 15);
        who.enter(1, 0, 3);
        who.enter(1, 3, 5);
        who.enter(2, 0, 60);
        who.enter(2, 3, 60);
        dueParts("another one owes", who, 0);
    }

    private static void partsNowhere() {
        KeyBox box = group(3, "flat 10;", "falling 10;");
        dueParts("an empty LOG", box, KeyBox.NONE);
        box.meet(0, 7);
        CHECK.due("RULES against themselves", box.parts(0, 0), KeyBox.NONE);
        KeyBox stamps = group(3, "stamp 10; most 2;", "stamp 20; most 1;");
        stamps.meet(0, 7);
        stamps.enter(1, 0, 2);
        dueParts("stamps alone are unlike", stamps, KeyBox.NONE);
        KeyBox shut = group(4, "turn 1; stamp 5;", "turn 1; stamp 9;");
        shut.meet(1, 6);
        shut.enter(1, 1, 5);
        dueParts("a SHUT meeting", shut, KeyBox.NONE);
    }

    private static void partsRefuses() {
        KeyBox box = new KeyBox();
        for (int n : new int[] {-1, 4, Integer.MIN_VALUE, Integer.MAX_VALUE}) {
            CHECK.due("parts(" + n + ", 0)", box.parts(n, 0), KeyBox.RANGE);
            CHECK.due("parts(0, " + n + ")", box.parts(0, n), KeyBox.RANGE);
        }
        CHECK.due("parts(3, 3)", box.parts(3, 3), KeyBox.NONE);
    }

    private static void gainsOfStampsAndDues() {
        KeyBox box = group(4, "stamp 10; social 2; absent 5; turn 52;", "stamp 20; social 3; turn 52;");
        box.meet(0, 7);
        box.enter(1, 0, 5);
        box.enter(1, 1, 1);
        box.enter(4, 2, 6);
        // By 0: BOX 71, of it 59 and 11; by 1: BOX 126, of it 105 and 21
        dueGains(box, 0, 59 - 50 - 2 - (105 - 100 - 3));
        dueGains(box, 1, 11 - 10 - 2 - (21 - 20 - 3));
        dueGains(box, 2, -2 - 6 - (-3 - 6));
        dueGains(box, 3, -5);
    }

    private static void dueGains(KeyBox box, int m, int want) {
        CHECK.due("gains(0, 1, " + m + ")", box.gains(0, 1, m), want);
        CHECK.due("gains(1, 0, " + m + ")", box.gains(1, 0, m), -want);
        CHECK.due("gains(1, 1, " + m + ")", box.gains(1, 1, m), 0);
    }

    private static void gainsOfLoans() {
        KeyBox box = group(3, "flat 50; weeks 8; late 4;", "loan 0;");
        box.meet(0, 7);
        box.enter(1, 0, 2);
        box.enter(1, 1, 5);
        box.enter(2, 0, 20);
        box.meet(8, 7);
        box.enter(3, 0, 15);
        // By 0: 0 owes 40, pays late 4 and 15; BOX 50 + 19, owed 25, of 94 it has 26, gets 1; 1 gets 67
        dueGains(box, 0, 1 + 20 - 15 - 20 - 2 - 4 - (20 - 20 - 2));
        dueGains(box, 1, 67 - 50);
        dueGains(box, 2, 0);
    }

    private static void gainsOfTheGone() {
        KeyBox box = group(4, "turn 52;", "turn 52; stamp 20; death 2;");
        box.meet(0, 15);
        box.enter(1, 0, 1);
        box.enter(1, 3, 2);
        box.enter(4, 0, 30);
        box.enter(5, 3, 0);
        // By 0: 60 * 2 / 3 = 40 for 20; by 1: 90 * 2 / 3 = 60 for 40; what the FUND pays is not its own
        dueGains(box, 3, 40 - 20 - (60 - 40));
        dueGains(box, 0, 20 - 10 - (30 - 20));
        box.meet(1, 7);
        box.enter(4, 0, 5);
        box.enter(7, 0, 25);
        // By 0: 25 stolen, nothing is left; by 1: 35 less 25
        dueGains(box, 0, 0 - 10 - (10 - 20));
        box.enter(6, 0, 0);
        dueGains(box, 0, 0 - 10 - (10 - 20));
    }

    private static void gainsRefuses() {
        KeyBox box = new KeyBox();
        for (int n : new int[] {-1, 4, Integer.MIN_VALUE, Integer.MAX_VALUE}) {
            CHECK.due("gains(" + n + ", 0, 0)", box.gains(n, 0, 0), NO_GAIN);
            CHECK.due("gains(0, " + n + ", 0)", box.gains(0, n, 0), NO_GAIN);
            CHECK.due("gains(0, 0, " + n + ")", box.gains(0, 0, n), NO_GAIN);
        }
        CHECK.due("gains(0, 0, 3)", box.gains(0, 0, 3), NO_GAIN);
        CHECK.due("gains(3, 3, 2)", box.gains(3, 3, 2), 0);
        box.members(4);
        CHECK.due("gains(0, 0, 3) of four", box.gains(0, 0, 3), 0);
    }

    private static void latestPlayStays() {
        KeyBox box = group(3, "stamp 10;", "stamp 20;");
        box.meet(0, 7);
        box.enter(1, 0, 5);
        CHECK.due("parts ahead of any play()", box.parts(0, 1), 0);
        CHECK.due("gains ahead of any play()", box.gains(0, 1, 0), 0);
        CHECK.due("nothing is played", box.sum(2), -9);
        box.play(1);
        box.parts(0, 0);
        box.gains(0, 0, 0);
        CHECK.due("BOX of the latest play()", box.sum(2), 100);
        CHECK.due("gets of the latest play()", box.member(0, 10), 100);
        CHECK.due("meeting of the latest play()", box.meeting(0, 2), 100);
        CHECK.due("count(4)", box.count(4), 1);
    }

    private static void counts() {
        KeyBox box = new KeyBox();
        box.members(7);
        box.meet(0, 127);
        box.enter(1, 0, 1);
        box.meet(1, 127);
        box.feed(0, 0, 0, 0, 0);
        box.end(13);
        box.play(2);
        int[] want = {7, 3, 2, 13, 2};
        for (int what = 0; what < want.length; what++) {
            CHECK.due("count(" + what + ")", box.count(what), want[what]);
        }
        for (int what : new int[] {-1, 5, Integer.MIN_VALUE, Integer.MAX_VALUE}) {
            CHECK.due("count(" + what + ")", box.count(what), KeyBox.NONE);
        }
        box.play(0);
        CHECK.due("count(4)", box.count(4), 0);
        box.back();
        CHECK.due("count(4) behind back()", box.count(4), KeyBox.NONE);
        CHECK.due("count(2)", box.count(2), 1);
    }
}
