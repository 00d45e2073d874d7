/** The edges that the document names of rules held against one another, and of counts: promises 16 to 18. */
public final class HeldEdgesTest {
    private static final Check CHECK = new Check();
    private static final int NONE = KeyBox.NONE;
    private static final int NO_GAIN = -2000000000;
    private static final int[] FAR = {-1, 4, Integer.MIN_VALUE, Integer.MAX_VALUE};

    public static void main(String[] args) {
        parts();
        gains();
        counts();
        CHECK.finish();
    }

    private static void parts() {
        CHECK.sentence("the first MEETING at whose end BOX .. are unlike", HeldEdgesTest::boxUnlike);
        CHECK.sentence("the first MEETING at whose end .. FUND .. are unlike", HeldEdgesTest::fundUnlike);
        CHECK.sentence("or what somebody owes are unlike", HeldEdgesTest::owedUnlike);
        CHECK.sentence("the first MEETING", HeldEdgesTest::firstMeeting);
        CHECK.sentence("at whose end", HeldEdgesTest::atItsEnd);
        CHECK.sentence("NONE: none", HeldEdgesTest::partsNowhere);
        CHECK.sentence("NONE: none; RANGE", HeldEdgesTest::partsRefused);
        CHECK.sentence("parts(): (The latest play() stays.)", () -> latestPlayStays(true));
    }

    private static void gains() {
        CHECK.sentence("How much more MEMBER m has of the year by RULES r than by s", HeldEdgesTest::howMuchMore);
        CHECK.sentence("what it gets at PARTING", HeldEdgesTest::getsAtParting);
        CHECK.sentence("or got from the BOX when GONE", HeldEdgesTest::gotWhenGone);
        CHECK.sentence("and as loans, less what it paid back", HeldEdgesTest::loansLessPaidBack);
        CHECK.sentence("less what it paid .. for stamps", HeldEdgesTest::forStamps);
        CHECK.sentence("less what it paid .. social, absent, late, FINES", HeldEdgesTest::duesPaid);
        CHECK.sentence("RANGE (-2000000000): no such", HeldEdgesTest::gainsRefused);
        CHECK.sentence("gains(): (The latest play() stays.)", () -> latestPlayStays(false));
    }

    private static void counts() {
        CHECK.sentence("What 0: MEMBERS", HeldEdgesTest::countMembers);
        CHECK.sentence("1: ENTRIES, 2: MEETINGS", HeldEdgesTest::countEntriesAndMeetings);
        CHECK.sentence("3: bytes of THE TAPE", HeldEdgesTest::countBytes);
        CHECK.sentence("4: which RULES were played latest", HeldEdgesTest::countPlayed);
        CHECK.sentence("(NONE: none since, as member())", HeldEdgesTest::countPlayedNoneSince);
        CHECK.sentence("NONE for others", HeldEdgesTest::countOthers);
    }

    // ---- parts

    private static void dueParts(String what, KeyBox box, int want) {
        CHECK.due(what, box.parts(0, 1), want);
        CHECK.due(what + ", the other way", box.parts(1, 0), want);
    }

    private static void boxUnlike() {
        KeyBox box = Told.group(3, "stamp 10;").rules(1, "stamp 11;").meet(0).meet(1).buy(0, 1).box();
        dueParts("by a penny", box, 1);
        dueParts("by absent", Told.group(4, "turn 52;").rules(1, "turn 52; absent 1;").meet(0)
                .meetWithout(7, 3).box(), 1);
    }

    private static void fundUnlike() {
        dueParts("by social", Told.group(3, "social 1;").rules(1, "social 2;").meet(0).box(), 0);
        Told died = Told.group(4, "turn 52; death 4;").rules(1, "turn 52; death 5;").meet(0).meet(1).died(3);
        dueParts("by death", died.box(), 1);
        Told less = Told.group(4, "turn 52; death 8;").rules(1, "turn 52; death 9;").meet(0).meet(1).died(3);
        dueParts("death beyond the FUND", less.box(), NONE);
    }

    private static void owedUnlike() {
        Told flat = Told.group(3, "weeks 4;").rules(1, "weeks 5;").meet(0).buy(0, 5).meet(1).ask(0, 10);
        dueParts("by a penny of interest", flat.box(), 1);
        Told who = Told.group(3, "flat 0; order first;").rules(1, "flat 0; order saved;").meet(0).buy(0, 3).buy(1, 2);
        dueParts("all that is owed is alike, but not who owes it", who.ask(1, 40).ask(0, 40).box(), 0);
        Told last = Told.group(24, "weeks 4;").rules(1, "weeks 5;").meet(0).buy(23, 5).ask(23, 10);
        dueParts("what the last one owes", last.box(), 0);
    }

    private static void firstMeeting() {
        Told told = Told.group(3, "social 0;").rules(1, "social 0; stamp 11;");
        for (int week = 0; week < 52; week++) {
            told.meet(week);
        }
        dueParts("alike to the end", told.box(), NONE);
        dueParts("the 52nd alone", told.buy(0, 1).box(), 51);
        Told early = Told.group(3, "social 0;").rules(1, "social 0; stamp 11;").meet(9).buy(0, 1).meet(10).buy(0, 1);
        dueParts("by number, not by week", early.box(), 0);
        Told entries = Told.group(3, "").rules(1, "stamp 11;").meet(2).fine(0, 1).fine(0, 2).meet(30).buy(0, 1);
        dueParts("by number, not by ENTRY", entries.box(), 1);
        Told again = Told.group(3, "").rules(1, "stamp 11;").meet(2).buy(0, 1).meet(3).robbed(100).meet(4);
        dueParts("though they are alike again later", again.box(), 0);
    }

    private static void atItsEnd() {
        Told told = Told.group(3, "").rules(1, "stamp 11;").meet(2).buy(0, 1).robbed(100);
        dueParts("unlike within it, alike at its end", told.box(), NONE);
        Told shut = Told.group(4, "turn 52;").rules(1, "turn 1;").meet(0).buy(0, 1).meetWithout(1, 0, 3);
        dueParts("SHUT by both", shut.box(), NONE);
    }

    private static void partsNowhere() {
        KeyBox empty = new KeyBox();
        Check.tell(empty, 1, "stamp 99; social 7;");
        dueParts("an empty LOG", empty, NONE);
        KeyBox box = Told.group(3, "stamp 99; flat 0;").rules(1, "falling 50; stamp 99;")
                .meet(0).buy(0, 1).ask(0, 5).box();
        dueParts("interest later alone", box, NONE);
        for (int r = 0; r < 4; r++) {
            CHECK.due("RULES " + r + " and themselves", box.parts(r, r), NONE);
        }
        Told most = Told.group(24, "flat 0;").rules(1, "falling 9;").meet(0).buy(23, 5).ask(23, 10);
        dueParts("24 MEMBERS, and the last one owes alike", most.box(), NONE);
        dueParts("stamps alone are unlike", Told.group(3, "stamp 10; most 2;").rules(1, "stamp 20; most 1;")
                .meet(0).buy(0, 2).box(), NONE);
    }

    private static void partsRefused() {
        KeyBox box = Told.group(3, "").meet(0).box();
        for (int n : FAR) {
            CHECK.due("parts(" + n + ", 0)", box.parts(n, 0), KeyBox.RANGE);
            CHECK.due("parts(0, " + n + ")", box.parts(0, n), KeyBox.RANGE);
            CHECK.due("parts(" + n + ", " + n + ")", box.parts(n, n), KeyBox.RANGE);
        }
        CHECK.due("parts(3, 0)", box.parts(3, 0), NONE);
        CHECK.due("parts(0, 3)", box.parts(0, 3), NONE);
        CHECK.due("of an empty LOG", new KeyBox().parts(4, 0), KeyBox.RANGE);
    }

    private static void latestPlayStays(boolean ofParts) {
        Told told = Told.group(3, "stamp 10;").rules(1, "stamp 20; turn 1;").meet(0).buy(0, 5).ask(0, 30).meet(1);
        int before = ofParts ? told.box().parts(0, 1) : told.box().gains(0, 1, 0);
        CHECK.due("nothing is played by it", told.box().sum(2), -9);
        CHECK.due("count(4)", told.box().count(4), NONE);
        KeyBox box = told.play();
        int[] sums = Check.sums(box);
        int[] member = Check.member(box, 0);
        int[] meeting = Check.meeting(box, 1);
        CHECK.due("the same again", ofParts ? box.parts(0, 1) : box.gains(0, 1, 0), before);
        CHECK.due("RANGE", ofParts ? box.parts(4, 1) : box.gains(0, 1, 3), ofParts ? KeyBox.RANGE : NO_GAIN);
        CHECK.dueRow("sums", Check.sums(box), sums);
        CHECK.dueRow("MEMBER 0", Check.member(box, 0), member);
        CHECK.dueRow("MEETING 1", Check.meeting(box, 1), meeting);
        CHECK.due("count(4)", box.count(4), 0);
    }

    // ---- gains

    private static void dueGains(String what, Told told, int m, int want) {
        KeyBox box = told.box();
        CHECK.due(what, box.gains(0, 1, m), want);
        CHECK.due(what + ", the other way", box.gains(1, 0, m), -want);
    }

    private static void howMuchMore() {
        Told told = Told.group(3, "social 5;").rules(1, "social 2;").rules(2, "social 2;").meet(0);
        dueGains("less by 0", told, 0, -3);
        CHECK.due("RULES that are alike", told.box().gains(1, 2, 0), 0);
        CHECK.due("RULES and themselves", told.box().gains(0, 0, 0), 0);
        CHECK.due("of an empty LOG", new KeyBox().gains(0, 3, 2), 0);
    }

    private static void getsAtParting() {
        // 5 pence of interest by RULES 0: 125 are parted 62 and 62 instead of 120 by 60 and 60
        Told told = Told.group(3, "social 0; flat 10; weeks 4;").rules(1, "social 0; flat 0;")
                .meet(0).buy(0, 5).buy(1, 5).fine(2, 20).ask(0, 50);
        dueGains("who has a part of the interest", told, 1, 2);
        dueGains("who owes it", told, 0, -3);
        dueGains("who has no stamps", told, 2, 0);
        // By RULES 0 its 5 stamps have 59 of 71, by 1 50 of 60
        Told absent = Told.group(4, "turn 52; absent 11;").rules(1, "turn 52;").meetWithout(0, 3).buy(0, 5).buy(1, 1);
        dueGains("more is parted", absent, 0, 9);
    }

    private static void gotWhenGone() {
        Told told = Told.group(5, "turn 52; absent 8;").rules(1, "turn 52;")
                .meetWithout(0, 4).buy(3, 3).buy(0, 1).left(3);
        dueGains("36 instead of 30", told, 3, 6);
        Told died = Told.group(4, "turn 52; death 3;").rules(1, "turn 52; death 1;").meet(0).buy(3, 3).died(3);
        dueGains("what the FUND pays is not its own", died, 3, 0);
    }

    private static void loansLessPaidBack() {
        Told lost = Told.group(3, "social 0; flat 0; loan 900;").rules(1, "social 0; loan 0;")
                .meet(0).buy(0, 1).buy(1, 1).ask(0, 15);
        // In DEFAULT with 15 lent and nothing to get, instead of its SHARE of 10
        dueGains("a loan not paid back", lost, 0, 15 - 10);
        dueGains("who bears it", lost, 1, 5 - 10);
        Told paid = Told.group(3, "social 0; flat 50; weeks 4;").rules(1, "social 0; flat 0;")
                .meet(0).buy(0, 1).buy(1, 1).ask(0, 10).meet(1).pay(0, 15);
        // 15 paid back for 10, and SHARES of 12 instead of 10
        dueGains("a loan paid back", paid, 0, 12 - 15 + 10 - (10 - 10 + 10));
    }

    private static void forStamps() {
        Told told = Told.group(4, "turn 52; stamp 10;").rules(1, "turn 52; stamp 13;")
                .meet(0).buy(0, 3).robbed(1000000);
        dueGains("three stamps, all robbed", told, 0, 9);
        Told most = Told.group(4, "turn 52; most 2;").rules(1, "turn 52; most 5;").meet(0).buy(0, 9).robbed(1000000);
        dueGains("two stamps and five, all robbed", most, 0, 30);
        Told gone = Told.group(4, "turn 52; stamp 10;").rules(1, "turn 52; stamp 13;")
                .meet(0).buy(3, 3).robbed(1000000).left(3);
        dueGains("of who is GONE", gone, 3, 9);
    }

    private static void duesPaid() {
        dueGains("social", Told.group(3, "social 1;").rules(1, "social 1000;").meet(0), 1, 999);
        dueGains("absent", Told.group(4, "turn 52;").rules(1, "turn 52; absent 1000;").meetWithout(0, 3), 3, 1000);
        // Its late dues come into the BOX, and all of that is robbed.
        Told late = Told.group(3, "flat 0; weeks 1; late 7;").rules(1, "flat 0; weeks 1;")
                .meet(0).buy(0, 1).ask(0, 10).meet(1).robbed(1000000);
        dueGains("late", late, 0, -7);
        // By RULES 1 the second MEETING is SHUT, for 3 has a KEY.
        Told fine = Told.group(4, "turn 52;").rules(1, "turn 1;").meet(0).meetWithout(1, 3).fine(0, 33).robbed(1000000);
        dueGains("a FINE and social, in a MEETING that is SHUT by the other", fine, 0, -34);
    }

    private static void gainsRefused() {
        KeyBox box = Told.group(4, "").meet(0).box();
        for (int n : FAR) {
            CHECK.due("gains(" + n + ", 0, 0)", box.gains(n, 0, 0), NO_GAIN);
            CHECK.due("gains(0, " + n + ", 0)", box.gains(0, n, 0), NO_GAIN);
            CHECK.due("gains(0, 0, " + n + ")", box.gains(0, 0, n), NO_GAIN);
        }
        CHECK.due("the last one", box.gains(3, 3, 3), 0);
        KeyBox most = Told.group(24, "").meet(0).box();
        CHECK.due("MEMBER 23", most.gains(0, 0, 23), 0);
        CHECK.due("MEMBER 24", most.gains(0, 0, 24), NO_GAIN);
    }

    // ---- count

    private static void countMembers() {
        KeyBox box = new KeyBox();
        CHECK.due("at first", box.count(0), 3);
        box.members(24);
        CHECK.due("told", box.count(0), 24);
        box.members(25);
        CHECK.due("told wrong", box.count(0), 24);
        KeyBox gone = Told.group(4, "").meet(0).left(3).play();
        CHECK.due("one GONE", gone.count(0), 4);
    }

    private static void countEntriesAndMeetings() {
        KeyBox box = new KeyBox();
        int[][] want = {{1, 1}, {2, 1}, {3, 2}, {2, 1}, {1, 1}, {0, 0}};
        for (int i = 0; i < want.length; i++) {
            int done = i == 0 ? box.meet(0, 7) : i == 1 ? box.enter(1, 0, 1) : i == 2 ? box.meet(1, 7) : box.back();
            CHECK.due("answer " + i + " is none of the refusals", done < 0 ? 1 : 0, 0);
            CHECK.due("ENTRIES behind " + i, box.count(1), want[i][0]);
            CHECK.due("MEETINGS behind " + i, box.count(2), want[i][1]);
        }
    }

    private static void countBytes() {
        KeyBox box = new KeyBox();
        CHECK.due("at first", box.count(3), 0);
        for (int n = 20; n <= 500; n += 20) {
            box.feed(0, 0, 0, 0, 0);
            CHECK.due("fed", box.count(3), n);
        }
        box.feed(0, 0, 0, 0, 0);
        CHECK.due("FULL", box.count(3), 500);
        box.end(7);
        CHECK.due("cut", box.count(3), 7);
        box.rules(0);
        CHECK.due("read", box.count(3), 0);
    }

    private static void countPlayed() {
        KeyBox box = new KeyBox();
        for (int r = 3; r >= 0; r--) {
            box.play(r);
            CHECK.due("played", box.count(4), r);
        }
        box.play(4);
        box.play(-1);
        CHECK.due("RANGE behind it", box.count(4), 0);
    }

    private static void countPlayedNoneSince() {
        KeyBox box = new KeyBox();
        CHECK.due("at first", box.count(4), NONE);
        box.play(0);
        box.meet(0, 7);
        CHECK.due("behind meet()", box.count(4), NONE);
        box.play(0);
        box.enter(1, 0, 1);
        CHECK.due("behind enter()", box.count(4), NONE);
        box.play(0);
        box.back();
        CHECK.due("behind back()", box.count(4), NONE);
        box.play(0);
        Check.tell(box, 3, "");
        CHECK.due("behind rules()", box.count(4), NONE);
        box.play(2);
        Check.tell(box, 2, "!");
        CHECK.due("behind a FAULT", box.count(4), 2);
    }

    private static void countOthers() {
        KeyBox box = Told.group(3, "").meet(0).play();
        for (int what : new int[] {-1, 5, 6, Integer.MIN_VALUE, Integer.MAX_VALUE}) {
            CHECK.due("count(" + what + ")", box.count(what), NONE);
        }
    }
}
