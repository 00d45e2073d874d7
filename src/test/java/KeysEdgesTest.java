/** The edges that the document names of keys, and of open and shut meetings: Terms II, sentence by sentence. */
public final class KeysEdgesTest {
    private static final Check CHECK = new Check();
    private static final int NONE = KeyBox.NONE;

    public static void main(String[] args) {
        CHECK.sentence("A PLAY goes through THE LOG with an empty BOX and FUND", KeysEdgesTest::emptyAtFirst);
        CHECK.sentence("in week w MEMBERS 3 * (w / turn) + 0, 1, 2", KeysEdgesTest::keysByWeek);
        CHECK.sentence("(whole part", KeysEdgesTest::wholePart);
        CHECK.sentence("the rest by how many MEMBERS there are)", KeysEdgesTest::restByMembers);
        CHECK.sentence("have one each, who aren't GONE", KeysEdgesTest::oneEach);
        CHECK.sentence("then, KEY by KEY, that of one who is GONE", KeysEdgesTest::keyByKey);
        CHECK.sentence("goes to the next in number who isn't", KeysEdgesTest::nextWhoIsNotGone);
        CHECK.sentence("and has none", KeysEdgesTest::nextWhoHasNone);
        CHECK.sentence("(behind the last one 0 comes", KeysEdgesTest::behindTheLast);
        CHECK.sentence("if there is none such, nobody has it)", KeysEdgesTest::nobodyHasIt);
        CHECK.sentence("A MEETING is OPEN, if somebody has a KEY", KeysEdgesTest::somebodyHasAKey);
        CHECK.sentence("and all who have one are there", KeysEdgesTest::allAreThere);
        CHECK.sentence("else it is SHUT: nothing is done in it", KeysEdgesTest::nothingIsDone);
        CHECK.sentence("its ENTRIES do nothing", KeysEdgesTest::entriesDoNothing);
        CHECK.sentence("(ROBBED alone is done in any)", KeysEdgesTest::robbedInAny);
        CHECK.finish();
    }

    private static void dueKeys(String what, KeyBox box, int meeting, int... want) {
        for (int k = 0; k < 3; k++) {
            CHECK.due(what + ", KEY " + k, box.meeting(meeting, 7 + k), want[k]);
        }
    }

    private static void emptyAtFirst() {
        KeyBox bare = Told.group(3, "social 0;").meet(0).play();
        CHECK.due("BOX", bare.meeting(0, 2), 0);
        CHECK.due("FUND", bare.meeting(0, 3), 0);

        // A year that leaves something of each kind: money, stamps, a loan, one who waits, one who is GONE
        Told told = Told.group(4, "social 3; absent 2; turn 52; weeks 1; late 4;")
                .meet(0).buy(0, 5).buy(1, 5).ask(0, 60).meetWithout(1, 3).left(2).ask(1, 150).ask(1, 1);
        KeyBox box = told.rules(1, "falling 5; stamp 9; turn 52;").play();
        int[] first = Check.member(box, 1);
        int[] gone = Check.member(box, 2);
        int[] meeting = Check.meeting(box, 1);
        int[] sums = Check.sums(box);
        CHECK.due("one waits", box.meeting(1, 6), 1);
        box.play(1);
        box.play(0);
        CHECK.dueRow("MEMBER 1 again", Check.member(box, 1), first);
        CHECK.dueRow("MEMBER 2 again", Check.member(box, 2), gone);
        CHECK.dueRow("MEETING 1 again", Check.meeting(box, 1), meeting);
        CHECK.dueRow("sums again", Check.sums(box), sums);
    }

    private static void keysByWeek() {
        Told told = Told.group(24, "turn 1;");
        for (int week = 0; week < 52; week++) {
            told.meet(week);
        }
        KeyBox box = told.play();
        for (int week = 0; week < 52; week++) {
            int first = 3 * week % 24;
            dueKeys("week " + week, box, week, first, first + 1, first + 2);
        }
    }

    private static void wholePart() {
        KeyBox four = Told.group(24, "turn 4;").meet(3).meet(4).meet(7).meet(8).meet(51).play();
        dueKeys("week 3", four, 0, 0, 1, 2);
        dueKeys("week 4", four, 1, 3, 4, 5);
        dueKeys("week 7", four, 2, 3, 4, 5);
        dueKeys("week 8", four, 3, 6, 7, 8);
        dueKeys("week 51", four, 4, 12, 13, 14);
        KeyBox all = Told.group(24, "turn 52;").meet(51).play();
        dueKeys("week 51, turn 52", all, 0, 0, 1, 2);
        KeyBox most = Told.group(24, "turn 51;").meet(50).meet(51).play();
        dueKeys("week 50, turn 51", most, 0, 0, 1, 2);
        dueKeys("week 51, turn 51", most, 1, 3, 4, 5);
    }

    private static void restByMembers() {
        KeyBox three = Told.group(3, "turn 1;").meet(1).meet(51).play();
        dueKeys("three, week 1", three, 0, 0, 1, 2);
        dueKeys("three, week 51", three, 1, 0, 1, 2);
        KeyBox four = Told.group(4, "turn 1;").meet(1).meet(2).meet(3).meet(4).play();
        dueKeys("four, week 1", four, 0, 3, 0, 1);
        dueKeys("four, week 2", four, 1, 2, 3, 0);
        dueKeys("four, week 3", four, 2, 1, 2, 3);
        dueKeys("four, week 4", four, 3, 0, 1, 2);
        KeyBox five = Told.group(5, "turn 1;").meet(1).play();
        dueKeys("five, week 1", five, 0, 3, 4, 0);
        KeyBox many = Told.group(23, "turn 1;").meet(7).meet(51).play();
        dueKeys("23, week 7", many, 0, 21, 22, 0);
        dueKeys("23, week 51", many, 1, 15, 16, 17);
    }

    private static void oneEach() {
        // Those who leave have no KEY in week 1, so that nobody's goes on.
        KeyBox box = Told.group(6, "turn 1;").meet(0).left(0, 1, 2).meet(1).play();
        dueKeys("week 1", box, 1, 3, 4, 5);
        KeyBox later = Told.group(4, "turn 52;").meet(0).left(1).play();
        dueKeys("who goes in the MEETING had it", later, 0, 0, 1, 2);
    }

    private static void keyByKey() {
        KeyBox two = Told.group(6, "turn 52;").meet(0).left(0, 1).meet(1).play();
        dueKeys("0 and 1 GONE", two, 1, 3, 4, 2);
        KeyBox all = Told.group(6, "turn 52;").meet(0).left(2, 1, 0).meet(1).play();
        dueKeys("0, 1, 2 GONE", all, 1, 3, 4, 5);
    }

    private static void nextWhoIsNotGone() {
        KeyBox box = Told.group(7, "turn 52;").meet(0).left(2).meet(1).left(3).meet(2).left(5, 4).meet(3).play();
        dueKeys("2 GONE", box, 1, 0, 1, 3);
        dueKeys("2, 3 GONE", box, 2, 0, 1, 4);
        dueKeys("2 to 5 GONE", box, 3, 0, 1, 6);
        KeyBox died = Told.group(4, "turn 52;").meet(0).died(2).meet(1).play();
        dueKeys("2 died", died, 1, 0, 1, 3);
    }

    private static void nextWhoHasNone() {
        KeyBox first = Told.group(5, "turn 52;").meet(0).left(0).meet(1).play();
        dueKeys("0 GONE, 1 and 2 have one", first, 1, 3, 1, 2);
        KeyBox middle = Told.group(5, "turn 52;").meet(0).left(1).meet(1).play();
        dueKeys("1 GONE, 2 has one", middle, 1, 0, 3, 2);
        KeyBox handed = Told.group(5, "turn 52;").meet(0).left(1, 2).meet(1).play();
        dueKeys("1 and 2 GONE, 3 has one that was handed on", handed, 1, 0, 3, 4);
    }

    private static void behindTheLast() {
        KeyBox box = Told.group(5, "turn 1;").meet(0).left(4).meet(1).play();
        dueKeys("4 of five GONE, 0 has one", box, 1, 3, 1, 0);
        KeyBox last = Told.group(6, "turn 1;").meet(0).left(5).meet(1).play();
        dueKeys("5 of six GONE", last, 1, 3, 4, 0);
        KeyBox most = Told.group(24, "turn 1;").meet(0).left(23).meet(7).play();
        dueKeys("23 of 24 GONE", most, 1, 21, 22, 0);
        KeyBox two = Told.group(6, "turn 1;").meet(0).left(5, 0).meet(1).play();
        dueKeys("5 and 0 of six GONE", two, 1, 3, 4, 1);
    }

    private static void nobodyHasIt() {
        KeyBox three = Told.group(3, "").meet(0).left(1).meet(1).left(0).meet(2).play();
        dueKeys("1 of three GONE", three, 1, 0, NONE, 2);
        dueKeys("0 and 1 of three GONE", three, 2, NONE, NONE, 2);
        KeyBox four = Told.group(4, "turn 52;").meet(0).left(1, 2).meet(1).play();
        dueKeys("1 and 2 of four GONE", four, 1, 0, 3, NONE);
        KeyBox all = Told.group(3, "").meet(0).left(0, 1, 2).meet(1).play();
        dueKeys("all GONE", all, 1, NONE, NONE, NONE);
    }

    private static void somebodyHasAKey() {
        KeyBox none = Told.group(3, "").meet(0).left(0, 1, 2).meet(1).meetOf(2, 0).play();
        CHECK.due("all are GONE, and all there", none.meeting(1, 1), 0);
        CHECK.due("all are GONE, and nobody there", none.meeting(2, 1), 0);
        CHECK.due("OPEN", none.sum(0), 1);
        CHECK.due("SHUT", none.sum(1), 2);
        KeyBox one = Told.group(3, "").meet(0).left(0, 1).meetOf(1, 0b100).meetOf(2, 0b011).play();
        CHECK.due("the last one is there", one.meeting(1, 1), 1);
        CHECK.due("the last one is not there", one.meeting(2, 1), 0);
    }

    private static void allAreThere() {
        Told told = Told.group(6, "turn 1;").meet(0).meetOf(1, 0b111000);
        told.meetWithout(3, 3).meetWithout(5, 4).meetWithout(7, 5).meetOf(9, 0).meetWithout(11, 0);
        KeyBox box = told.play();
        int[] open = {1, 1, 0, 0, 0, 0, 1};
        for (int i = 0; i < open.length; i++) {
            CHECK.due("MEETING " + i, box.meeting(i, 1), open[i]);
        }
        CHECK.due("OPEN", box.sum(0), 3);
        CHECK.due("SHUT", box.sum(1), 4);
        KeyBox handed = Told.group(5, "turn 52;").meet(0).left(1).meetWithout(1, 1).meetWithout(2, 3).play();
        CHECK.due("who is GONE need not be there", handed.meeting(1, 1), 1);
        CHECK.due("who has its KEY must be", handed.meeting(2, 1), 0);
    }

    private static void nothingIsDone() {
        // In week 9 the loan of 40 would have grown and be LATE, and the 60 could be lent of the absent dues.
        KeyBox box = Told.group(5, "social 2; absent 30; falling 10; weeks 1; late 7; turn 52;").meet(0).buy(0, 3)
                .buy(1, 5).ask(0, 40).ask(1, 60).meetWithout(9, 2, 3, 4).play();
        CHECK.dueRow("MEETING 0", Check.meeting(box, 0), 0, 1, 40, 10, 40, 8, 1, 0, 1, 2);
        CHECK.dueRow("MEETING 1", Check.meeting(box, 1), 9, 0, 40, 10, 40, 8, 1, 0, 1, 2);
        for (int m = 0; m < 5; m++) {
            CHECK.due("dues of " + m, box.member(m, 4), 2);
        }
        CHECK.due("WAITED in the OPEN one alone", box.member(1, 5), 1);
        CHECK.due("interest", box.sum(11), 0);
    }

    private static void entriesDoNothing() {
        Told told = Told.group(4, "turn 52; flat 0; social 5; death 9;").meet(0).buy(0, 5).ask(0, 30);
        KeyBox box = told.meetWithout(1, 2).buy(1, 2).ask(1, 1).pay(0, 10).fine(1, 8).died(3).left(1).play();
        CHECK.dueRow("MEETING 1", Check.meeting(box, 1), 1, 0, 20, 20, 30, 5, 0, 0, 1, 2);
        CHECK.dueRow("MEMBER 0", Check.member(box, 0), 5, 30, 30, 0, 5, 0, 0, 0, 0, 50, 20, 0, 5);
        CHECK.dueRow("MEMBER 1", Check.member(box, 1), 0, 0, 0, 0, 5, 0, 0, 0, 0, 0, 0, 0, 0);
        CHECK.dueRow("MEMBER 3", Check.member(box, 3), 0, 0, 0, 0, 5, 0, 0, 0, 0, 0, 0, 0, 0);
        CHECK.due("paid by the FUND", box.sum(10), 0);
    }

    private static void robbedInAny() {
        Told told = Told.group(3, "flat 0;").meet(0).buy(0, 5).buy(1, 5).robbed(1).meetWithout(1, 2).robbed(2);
        KeyBox box = told.meetOf(2, 0).robbed(4).meet(3).left(0, 1, 2).meet(4).robbed(8).play();
        CHECK.due("OPEN", box.meeting(0, 2), 99);
        CHECK.due("SHUT", box.meeting(1, 2), 97);
        CHECK.due("SHUT, nobody there", box.meeting(2, 2), 93);
        CHECK.due("all leave with what there is", box.meeting(3, 2), 0);
        CHECK.due("robbed", box.sum(9), 7);
        KeyBox gone = Told.group(3, "").meet(0).fine(0, 50).left(0, 1, 2).meet(1).robbed(8).play();
        CHECK.due("all are GONE", gone.meeting(1, 2), 42);
        CHECK.due("robbed", gone.sum(9), 8);
        KeyBox without = Told.group(6, "turn 1;").meet(0).buy(3, 5).meetWithout(1, 0).robbed(9).play();
        CHECK.due("OPEN, 0 not there", without.meeting(1, 2), 41);
    }
}
