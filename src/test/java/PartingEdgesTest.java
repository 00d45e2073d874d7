/** The edges that the document names of the parting and of a play's answers: Terms II, promises 12 to 15. */
public final class PartingEdgesTest {
    private static final Check CHECK = new Check();
    private static final int MIN = Integer.MIN_VALUE;
    private static final int MAX = Integer.MAX_VALUE;

    public static void main(String[] args) {
        parting();
        plays();
        members();
        meetings();
        sums();
        CHECK.finish();
    }

    private static void parting() {
        CHECK.sentence("PARTING, behind THE LOG", PartingEdgesTest::behindTheLog);
        CHECK.sentence("TOTAL is the BOX and all that is owed", PartingEdgesTest::total);
        CHECK.sentence("Each one's SHARE: TOTAL times its stamps over all stamps (cut", PartingEdgesTest::shareIsCut);
        CHECK.sentence("0 without any)", PartingEdgesTest::shareWithoutStamps);
        CHECK.sentence("owes more than its SHARE", PartingEdgesTest::moreThanItsShare);
        CHECK.sentence("As long as somebody not yet in DEFAULT", PartingEdgesTest::asLongAs);
        CHECK.sentence("the lowest such one comes in DEFAULT", PartingEdgesTest::lowestFirst);
        CHECK.sentence("what it owes beyond its SHARE is lost", PartingEdgesTest::beyondItsShare);
        CHECK.sentence("TOTAL is less by all that it owes", PartingEdgesTest::totalIsLess);
        CHECK.sentence("its stamps are out, it gets nothing", PartingEdgesTest::stampsAreOut);
        CHECK.sentence("and the SHARES of those not in DEFAULT are reckoned anew", PartingEdgesTest::reckonedAnew);
        CHECK.sentence("Each of these gets its SHARE less what it owes", PartingEdgesTest::shareLessOwed);
        CHECK.sentence("What the BOX has left then is REST", PartingEdgesTest::rest);
    }

    private static void plays() {
        CHECK.sentence("RULES r are played: how many MEETINGS were OPEN", PartingEdgesTest::howManyOpen);
        CHECK.sentence("how many MEETINGS were OPEN; RANGE", PartingEdgesTest::noSuchRulesToPlay);
    }

    private static void members() {
        CHECK.sentence("Of the latest play(), of MEMBER m ahead of PARTING", PartingEdgesTest::aheadOfParting);
        CHECK.sentence("what 0: stamps, 1: owes", PartingEdgesTest::stampsAndOwes);
        CHECK.sentence("2: got as loans in all, 3: paid back in all", PartingEdgesTest::loansInAll);
        CHECK.sentence("4: social, absent, late, FINES paid in all", PartingEdgesTest::duesInAll);
        CHECK.sentence("5: MEETINGS WAITED, 6: asks REFUSED", PartingEdgesTest::waitedAndRefused);
        CHECK.sentence("7: 1 if GONE; 8: got from the BOX when GONE", PartingEdgesTest::whenGone);
        CHECK.sentence("at PARTING 9: SHARE (0 if GONE, in DEFAULT)", PartingEdgesTest::shareOfGoneAndDefault);
        CHECK.sentence("10: gets, 11: 1 if in DEFAULT", PartingEdgesTest::getsAndDefault);
        CHECK.sentence("12: stamps bought in all (of those that were BOUGHT)", PartingEdgesTest::boughtInAll);
        CHECK.sentence("member(): -9 when there is none such", PartingEdgesTest::noSuchMember);
        CHECK.sentence("or nothing was played", PartingEdgesTest::nothingWasPlayed);
        CHECK.sentence("nothing was played since THE LOG .. changed", PartingEdgesTest::sinceTheLogChanged);
        CHECK.sentence("nothing was played since .. RULES changed", PartingEdgesTest::sinceRulesChanged);
        CHECK.sentence("since .. changed: a refused call changes nothing", PartingEdgesTest::refusedCallsKeepIt);
        CHECK.sentence("since .. changed: what is neither changes nothing", PartingEdgesTest::otherCallsKeepIt);
    }

    private static void meetings() {
        CHECK.sentence("of the i-th MEETING, what 0: week", PartingEdgesTest::ithMeeting);
        CHECK.sentence("2: the BOX at its end (behind all ENTRIES of its week)", PartingEdgesTest::behindAllEntries);
        CHECK.sentence("3: the FUND, 4: all that is owed, 5: all stamps", PartingEdgesTest::fundOwedStamps);
        CHECK.sentence("6: how many are in the QUEUE", PartingEdgesTest::howManyInTheQueue);
        CHECK.sentence("7 + k: who has KEY k (k 0 .. 2; NONE)", PartingEdgesTest::whoHasKey);
        CHECK.sentence("meeting(): -9 likewise", PartingEdgesTest::noSuchMeeting);
    }

    private static void sums() {
        CHECK.sentence("what 0: OPEN MEETINGS, 1: SHUT ones", PartingEdgesTest::openAndShut);
        CHECK.sentence("2: BOX at the end, 3: FUND, 4: owed", PartingEdgesTest::atTheEnd);
        CHECK.sentence("5: TOTAL behind DEFAULTS, 6: REST", PartingEdgesTest::totalBehindDefaults);
        CHECK.sentence("7: lost by who are GONE, 8: lost by DEFAULTS", PartingEdgesTest::lost);
        CHECK.sentence("9: robbed, 10: paid by the FUND", PartingEdgesTest::robbedAndPaid);
        CHECK.sentence("11: interest put to loans in all", PartingEdgesTest::interestInAll);
        CHECK.sentence("sum(): -9 likewise", PartingEdgesTest::noSuchSum);
    }

    // ---- the parting

    /** Two of three have one stamp each, so that 20 are parted 10 and 10; 0 owes so much. */
    private static KeyBox owing(int pence) {
        return Told.group(3, "flat 0; loan 900; social 0;").meet(0).buyOneEach(2).ask(0, pence).play();
    }

    /** Three of four have one stamp each, so that 30 are parted by 10; 0 and 1 owe so much. */
    private static KeyBox owingTwo(int first, int second) {
        return Told.group(4, "flat 0; loan 900; social 0;").meet(0).buyOneEach(3).ask(0, first).ask(1, second).play();
    }

    private static void behindTheLog() {
        KeyBox empty = new KeyBox();
        empty.play(0);
        CHECK.dueRow("sums of an empty LOG", Check.sums(empty), new int[12]);
        CHECK.dueRow("MEMBER 0 of an empty LOG", Check.member(empty, 0), new int[13]);
        KeyBox gone = Told.group(3, "social 0;").meet(0).buyOneEach(3).left(0, 1, 2).play();
        CHECK.dueRow("sums when all are GONE", Check.sums(gone), 1, 0, 0, 0, 0, 0, 0, 0, 0, 0, 0, 0);
        KeyBox box = owing(5);
        CHECK.due("the MEETING's BOX is ahead of it", box.meeting(0, 2), 15);
        CHECK.due("BOX at the end too", box.sum(2), 15);
    }

    private static void total() {
        KeyBox box = Told.group(3, "flat 50; weeks 4; social 9;").meet(0).buy(0, 5).ask(0, 20).fine(1, 7).play();
        CHECK.due("57 less 20, and 30 owed; the FUND aside", box.sum(5), 67);
        CHECK.due("SHARE", box.member(0, 9), 67);
        CHECK.due("an empty BOX", Told.group(3, "").meet(0).play().sum(5), 0);
    }

    private static void shareIsCut() {
        KeyBox box = Told.group(3, "").meet(0).buy(0, 1).buy(1, 2).fine(2, 2).play();
        CHECK.due("32 / 3, cut", box.member(0, 9), 10);
        CHECK.due("64 / 3, cut", box.member(1, 9), 21);
        KeyBox robbed = Told.group(3, "").meet(0).buyOneEach(3).robbed(28).play();
        for (int m = 0; m < 3; m++) {
            CHECK.due("2 / 3, cut", robbed.member(m, 9), 0);
        }
        KeyBox all = Told.group(3, "").meet(0).buy(0, 5).robbed(1).play();
        CHECK.due("all stamps are its own", all.member(0, 9), 49);
    }

    private static void shareWithoutStamps() {
        KeyBox nobody = Told.group(3, "").meet(0).fine(0, 9).play();
        for (int m = 0; m < 3; m++) {
            CHECK.due("without any at all", nobody.member(m, 9), 0);
            CHECK.due("gets", nobody.member(m, 10), 0);
        }
        KeyBox some = Told.group(3, "").meet(0).fine(0, 9).buy(1, 1).play();
        CHECK.due("without its own", some.member(0, 9), 0);
        CHECK.due("with all", some.member(1, 9), 19);
    }

    private static void moreThanItsShare() {
        int[][] owesAndDefault = {{1, 0}, {9, 0}, {10, 0}, {11, 1}, {20, 1}};
        for (int[] row : owesAndDefault) {
            CHECK.due("in DEFAULT, " + row[0] + " owed of 10", owing(row[0]).member(0, 11), row[1]);
        }
        // SHARE is 10 of 10.67, cut
        KeyBox cut = Told.group(3, "flat 0;").meet(0).buyOneEach(3).fine(2, 2).ask(0, 11).play();
        CHECK.due("it is the cut one that counts", cut.member(0, 11), 1);
    }

    private static void asLongAs() {
        // 30 by 10; 0 owes 12: out, 18 by 9; 1 owes 10, no more than its SHARE at first: out too
        KeyBox chain = owingTwo(12, 10);
        CHECK.due("0 in DEFAULT", chain.member(0, 11), 1);
        CHECK.due("1 in DEFAULT", chain.member(1, 11), 1);
        CHECK.due("2 in DEFAULT", chain.member(2, 11), 0);
        CHECK.due("lost, each of them once", chain.sum(8), 2 + 1);
        KeyBox ends = owingTwo(12, 9);
        CHECK.due("0 in DEFAULT", ends.member(0, 11), 1);
        CHECK.due("1 owes just its new SHARE", ends.member(1, 11), 0);
        CHECK.due("lost", ends.sum(8), 2);
        KeyBox back = Told.group(4, "flat 0; loan 900; social 0;").meet(0).buyOneEach(3).ask(2, 12).ask(0, 10).play();
        CHECK.due("a lower one behind a higher one", back.member(0, 11), 1);
        CHECK.due("lost", back.sum(8), 2 + 1);
    }

    private static void lowestFirst() {
        // 0 first: 2 of 12, then 6 of 15 over 9; 1 first would lose 5 and 5
        KeyBox box = owingTwo(12, 15);
        CHECK.due("lost", box.sum(8), 2 + 6);
        CHECK.due("TOTAL", box.sum(5), 3);
        KeyBox turned = owingTwo(15, 12);
        CHECK.due("lost the other way", turned.sum(8), 5 + 5);
    }

    private static void beyondItsShare() {
        int[][] owesAndLost = {{10, 0}, {11, 1}, {15, 5}, {20, 10}};
        for (int[] row : owesAndLost) {
            CHECK.due("lost, " + row[0] + " owed of 10", owing(row[0]).sum(8), row[1]);
        }
    }

    private static void totalIsLess() {
        CHECK.due("no DEFAULT", owing(10).sum(5), 20);
        CHECK.due("one of 11", owing(11).sum(5), 9);
        CHECK.due("one of 20, all there was", owing(20).sum(5), 0);
        CHECK.due("two", owingTwo(12, 15).sum(5), 3);
        CHECK.due("owed ahead of it", owing(11).sum(4), 11);
    }

    private static void stampsAreOut() {
        KeyBox box = owing(11);
        CHECK.due("the other has all of the 9 left", box.member(1, 9), 9);
        CHECK.due("gets of who is in DEFAULT", box.member(0, 10), 0);
        CHECK.due("its stamps as they were ahead of PARTING", box.member(0, 0), 1);
        KeyBox robbed = Told.group(3, "flat 0; social 0;").meet(0).buyOneEach(1).ask(0, 10)
                .meet(1).buyOneEach(3).robbed(30).play();
        // TOTAL 10 by 4 stamps, 0 has two of them: 5 of 10 owed; then 0 for two
        CHECK.due("lost", robbed.sum(8), 5);
        CHECK.due("SHARE of nothing", robbed.member(1, 9), 0);
    }

    private static void reckonedAnew() {
        KeyBox one = owingTwo(12, 5);
        CHECK.due("SHARE 1", one.member(1, 9), 9);
        CHECK.due("SHARE 2", one.member(2, 9), 9);
        KeyBox two = owingTwo(12, 15);
        CHECK.due("SHARE 2 behind two DEFAULTS", two.member(2, 9), 3);
        CHECK.due("SHARE 3, without stamps", two.member(3, 9), 0);
    }

    private static void shareLessOwed() {
        int[][] owesAndGets = {{1, 9}, {9, 1}, {10, 0}};
        for (int[] row : owesAndGets) {
            KeyBox box = owing(row[0]);
            CHECK.due("gets, " + row[0] + " owed of 10", box.member(0, 10), row[1]);
            CHECK.due("the other gets", box.member(1, 10), 10);
        }
        CHECK.due("gets of a new SHARE", owingTwo(12, 5).member(1, 10), 4);
    }

    private static void rest() {
        CHECK.due("parted to the last penny", owing(5).sum(6), 0);
        CHECK.due("without stamps all is left", Told.group(3, "").meet(0).fine(0, 9).play().sum(6), 9);
        KeyBox cut = Told.group(3, "flat 0;").meet(0).buyOneEach(3).fine(2, 2).ask(1, 7).play();
        CHECK.due("two of 32 by three", cut.sum(6), 2);
        CHECK.due("BOX", cut.sum(2), 25);
        // 32: 0 owes 13, out; 19 by two
        KeyBox odd = Told.group(4, "flat 0; loan 900;").meet(0).buyOneEach(3).fine(3, 2).ask(0, 13).play();
        CHECK.due("one of 19 by two", odd.sum(6), 1);
    }

    // ---- play

    private static void howManyOpen() {
        CHECK.due("an empty LOG", new KeyBox().play(3), 0);
        KeyBox shut = Told.group(3, "").meetOf(0, 0).meetOf(1, 6).box();
        CHECK.due("all SHUT", shut.play(0), 0);
        Told told = Told.group(4, "");
        for (int week = 0; week < 52; week++) {
            told.meet(week);
        }
        CHECK.due("all 52 OPEN", told.box().play(0), 52);
        KeyBox byRules = Told.group(4, "turn 1;").rules(1, "turn 52;").meetWithout(0, 3).meetWithout(1, 3).box();
        CHECK.due("by RULES 0", byRules.play(0), 1);
        CHECK.due("by RULES 1", byRules.play(1), 2);
    }

    private static void noSuchRulesToPlay() {
        KeyBox box = Told.group(3, "").meet(0).play();
        for (int r : new int[] {-1, 4, MIN, MAX}) {
            CHECK.due("play(" + r + ")", box.play(r), KeyBox.RANGE);
            CHECK.due("the latest play() stays", box.sum(0), 1);
            CHECK.due("which it was", box.count(4), 0);
            CHECK.due("ahead of any", new KeyBox().play(r), KeyBox.RANGE);
        }
        CHECK.due("play(3)", box.play(3), 1);
    }

    // ---- member

    private static void aheadOfParting() {
        KeyBox box = owing(11);
        CHECK.due("stamps of who is in DEFAULT", box.member(0, 0), 1);
        CHECK.due("owes of who is in DEFAULT", box.member(0, 1), 11);
        CHECK.due("owes of who gets its SHARE less that", owing(5).member(0, 1), 5);
        box.play(1);
        CHECK.due("of the latest play(), flat 10", box.member(0, 1), 14);
    }

    private static void stampsAndOwes() {
        KeyBox box = Told.group(24, "turn 52; flat 0;").meet(0).buy(23, 5).buy(0, 2).ask(23, 7).ask(0, 60).play();
        CHECK.due("stamps of 23", box.member(23, 0), 5);
        CHECK.due("stamps of 0", box.member(0, 0), 2);
        CHECK.due("stamps of 1", box.member(1, 0), 0);
        CHECK.due("23 owes", box.member(23, 1), 7);
        CHECK.due("0 owes", box.member(0, 1), 60);
        CHECK.due("1 owes", box.member(1, 1), 0);
    }

    private static void loansInAll() {
        KeyBox box = Told.group(3, "flat 0;").meet(0).buy(0, 5).ask(0, 30).meet(1).pay(0, 10).pay(0, 20).ask(0, 45)
                .meet(2).pay(0, 5).play();
        CHECK.due("got", box.member(0, 2), 75);
        CHECK.due("paid", box.member(0, 3), 35);
        KeyBox gone = Told.group(4, "turn 52; flat 0;").meet(0).buy(3, 5).ask(3, 30).meet(1).pay(3, 10).left(3).play();
        CHECK.due("got, of who is GONE", gone.member(3, 2), 30);
        CHECK.due("paid, of who is GONE", gone.member(3, 3), 10);
    }

    private static void duesInAll() {
        KeyBox box = Told.group(4, "turn 52; flat 0; social 1; absent 10; late 100; weeks 1;")
                .meet(0).buy(3, 5).ask(3, 5).fine(3, 1000).meetWithout(1, 3).meet(2).fine(3, 1).play();
        CHECK.due("3 paid", box.member(3, 4), 2 + 10 + 200 + 1001);
        CHECK.due("0 paid", box.member(0, 4), 3);
    }

    private static void waitedAndRefused() {
        KeyBox box = Told.group(4, "turn 52; flat 0;").meet(0).buy(3, 2).ask(3, 30).ask(3, 1).ask(2, 1)
                .meet(1).ask(3, 1).meetOf(2, 0).ask(3, 1).meetWithout(3, 3).ask(3, 1).fine(0, 10)
                .meet(4).ask(3, 1).play();
        CHECK.due("WAITED in two OPEN ones", box.member(3, 5), 2);
        CHECK.due("REFUSED twice waiting and once owing", box.member(3, 6), 3);
        CHECK.due("WAITED of who was REFUSED", box.member(2, 5), 0);
        CHECK.due("REFUSED without stamps", box.member(2, 6), 1);
        CHECK.due("REFUSED of who never asked", box.member(0, 6), 0);
    }

    private static void whenGone() {
        KeyBox box = Told.group(4, "turn 52;").meet(0).buy(3, 2).buy(2, 1).left(3).died(2).play();
        int[][] want = {{0, 0}, {0, 0}, {1, 10}, {1, 20}};
        for (int m = 0; m < 4; m++) {
            CHECK.due("GONE " + m, box.member(m, 7), want[m][0]);
            CHECK.due("got " + m, box.member(m, 8), want[m][1]);
        }
    }

    private static void shareOfGoneAndDefault() {
        KeyBox gone = Told.group(4, "turn 52; social 0;").meet(0).buy(3, 2).buy(0, 1).left(3).play();
        CHECK.due("GONE", gone.member(3, 9), 0);
        CHECK.due("gets of the GONE", gone.member(3, 10), 0);
        CHECK.due("the other", gone.member(0, 9), 10);
        CHECK.due("in DEFAULT", owing(11).member(0, 9), 0);
        CHECK.due("not in DEFAULT", owing(10).member(0, 9), 10);
    }

    private static void getsAndDefault() {
        int[][] gets = {{0, 1}, {9, 0}, {0, 0}};
        KeyBox box = owing(11);
        for (int m = 0; m < 3; m++) {
            CHECK.due("gets " + m, box.member(m, 10), gets[m][0]);
            CHECK.due("DEFAULT " + m, box.member(m, 11), gets[m][1]);
        }
        CHECK.due("who is GONE with a loan lost is in none", Told.group(4, "turn 52; flat 0;")
                .meet(0).buy(3, 1).buy(0, 1).ask(3, 20).meet(1).left(3).play().member(3, 11), 0);
    }

    private static void boughtInAll() {
        KeyBox box = Told.group(4, "turn 52; most 3;").meet(0).buy(3, 9).buy(0, 2).meetWithout(1, 3).buy(3, 2).meet(2)
                .buy(3, 2).left(3).buy(3, 1).meetOf(3, 0).buy(0, 1).play();
        CHECK.due("3 and 2, not those beyond most, of one not there, of one GONE", box.member(3, 12), 5);
        CHECK.due("its stamps", box.member(3, 0), 0);
        CHECK.due("none in a SHUT one", box.member(0, 12), 2);
        CHECK.due("none", box.member(1, 12), 0);
    }

    private static void noSuchMember() {
        KeyBox box = Told.group(5, "").meet(0).play();
        for (int none : new int[] {-1, MIN, MAX}) {
            CHECK.due("member(" + none + ", 0)", box.member(none, 0), -9);
            CHECK.due("member(0, " + none + ")", box.member(0, none), -9);
        }
        CHECK.due("the last one", box.member(4, 0), 0);
        CHECK.due("one behind it", box.member(5, 0), -9);
        CHECK.due("what 12", box.member(4, 12), 0);
        CHECK.due("what 13", box.member(4, 13), -9);
        KeyBox most = Told.group(24, "").meet(0).play();
        CHECK.due("MEMBER 23", most.member(23, 4), 1);
        CHECK.due("MEMBER 24", most.member(24, 4), -9);
    }

    private static void dueUnplayed(String when, KeyBox box) {
        CHECK.due("member(0, 0) " + when, box.member(0, 0), -9);
        CHECK.due("meeting(0, 0) " + when, box.meeting(0, 0), -9);
        CHECK.due("sum(0) " + when, box.sum(0), -9);
        CHECK.due("count(4) " + when, box.count(4), KeyBox.NONE);
    }

    private static void duePlayed(String when, KeyBox box) {
        CHECK.due("member(0, 4) " + when, box.member(0, 4), 1);
        CHECK.due("meeting(0, 0) " + when, box.meeting(0, 0), 6);
        CHECK.due("sum(0) " + when, box.sum(0), 1);
        CHECK.due("count(4) " + when, box.count(4), 0);
    }

    private static KeyBox playedOnce() {
        return Told.group(3, "").meet(6).play();
    }

    private static void nothingWasPlayed() {
        dueUnplayed("of a new one", new KeyBox());
        dueUnplayed("ahead of any play()", Told.group(3, "").meet(6).box());
        duePlayed("played", playedOnce());
    }

    private static void sinceTheLogChanged() {
        KeyBox met = playedOnce();
        met.meet(7, 7);
        dueUnplayed("behind meet()", met);
        KeyBox entered = playedOnce();
        entered.enter(7, 0, 1);
        dueUnplayed("behind enter()", entered);
        entered.back();
        dueUnplayed("behind enter() and back()", entered);
        entered.play(0);
        duePlayed("played again", entered);
        KeyBox back = Told.group(3, "").meet(6).buy(0, 1).play();
        back.back();
        dueUnplayed("behind back()", back);
    }

    private static void sinceRulesChanged() {
        for (int r = 0; r < 4; r++) {
            KeyBox box = playedOnce();
            Check.tell(box, r, "stamp 77;");
            dueUnplayed("behind rules(" + r + ")", box);
            box.play(0);
            duePlayed("played again", box);
        }
    }

    private static void refusedCallsKeepIt() {
        KeyBox box = playedOnce();
        CHECK.due("members(3)", box.members(3), KeyBox.STATE);
        CHECK.due("meet(6, 7)", box.meet(6, 7), KeyBox.RANGE);
        CHECK.due("enter(1, 3, 1)", box.enter(1, 3, 1), KeyBox.RANGE);
        CHECK.due("rules(4)", box.rules(4), KeyBox.RANGE);
        CHECK.due("a FAULT", Check.tell(box, 0, "most"), KeyBox.NONE);
        CHECK.due("play(4)", box.play(4), KeyBox.RANGE);
        CHECK.due("feed", box.feed(0, 0, 0, 0, 0), 20);
        CHECK.due("end", box.end(-1), KeyBox.NONE);
        duePlayed("behind refused calls", box);
        KeyBox full = Told.group(3, "").meet(6).box();
        for (int i = 1; i < 300; i++) {
            full.enter(1, 0, 1);
        }
        full.play(0);
        CHECK.due("enter, FULL", full.enter(1, 0, 1), KeyBox.FULL);
        CHECK.due("meet, FULL", full.meet(7, 7), KeyBox.FULL);
        duePlayed("behind FULL", full);
        KeyBox empty = new KeyBox();
        empty.play(2);
        CHECK.due("back() of none", empty.back(), KeyBox.STATE);
        CHECK.due("count(4)", empty.count(4), 2);
    }

    private static void otherCallsKeepIt() {
        KeyBox box = playedOnce();
        Check.write(box, "stamp 77;");
        CHECK.due("end(3)", box.end(3), 3);
        box.parts(0, 1);
        box.gains(0, 1, 2);
        box.entry(0, 0);
        box.rule(0, 0);
        box.fault(0);
        box.count(0);
        duePlayed("behind calls that change neither", box);
        // MEMBERS are told beside THE LOG, so they are no change of it.
        KeyBox empty = new KeyBox();
        empty.play(2);
        CHECK.due("members(5) of an empty LOG", empty.members(5), 1);
        CHECK.due("count(4)", empty.count(4), 2);
        CHECK.due("sum(0)", empty.sum(0), 0);
        CHECK.due("member(4, 0)", empty.member(4, 0), 0);
        CHECK.due("member(5, 0)", empty.member(5, 0), -9);
    }

    // ---- meeting

    private static void ithMeeting() {
        Told told = Told.group(3, "");
        for (int week = 0; week < 52; week++) {
            told.meet(week);
        }
        KeyBox box = told.play();
        CHECK.due("the first", box.meeting(0, 0), 0);
        CHECK.due("the 52nd", box.meeting(51, 0), 51);
        CHECK.due("a 53rd", box.meeting(52, 0), -9);
        KeyBox some = Told.group(3, "").meet(5).buy(0, 1).buy(1, 1).meetOf(17, 0).meet(40).play();
        CHECK.due("ENTRIES don't count", some.meeting(1, 0), 17);
        CHECK.due("a SHUT one does", some.meeting(1, 1), 0);
        CHECK.due("the one behind it", some.meeting(2, 0), 40);
    }

    private static void behindAllEntries() {
        KeyBox box = Told.group(3, "flat 0;").meet(0).fine(0, 5).buy(1, 5).robbed(1).ask(1, 20).meet(1).play();
        CHECK.due("BOX, the loan given too", box.meeting(0, 2), 34);
        CHECK.due("BOX at the next", box.meeting(1, 2), 34);
    }

    private static void fundOwedStamps() {
        KeyBox box = Told.group(3, "social 2;").meet(0).buy(0, 2).buy(1, 3).ask(0, 10).ask(1, 20)
                .meet(1).pay(0, 3).play();
        CHECK.due("FUND 0", box.meeting(0, 3), 6);
        CHECK.due("FUND 1", box.meeting(1, 3), 12);
        CHECK.due("owed 0", box.meeting(0, 4), 13 + 26);
        CHECK.due("owed 1", box.meeting(1, 4), 10 + 26);
        CHECK.due("stamps 0", box.meeting(0, 5), 5);
    }

    private static void howManyInTheQueue() {
        Told told = Told.group(24, "loan 900; flat 0; social 0;").meet(0);
        for (int m = 0; m < 24; m++) {
            told.buy(m, 5).ask(m, 450);
        }
        KeyBox box = told.robbed(1200).meet(1).fine(0, 449).meet(2).fine(0, 1).play();
        CHECK.due("all 24", box.meeting(0, 6), 24);
        CHECK.due("all 24 still", box.meeting(1, 6), 24);
        CHECK.due("one is given its sum", box.meeting(2, 6), 23);
        CHECK.due("WAITED of the last one", box.member(23, 5), 3);
        CHECK.due("WAITED of the first one", box.member(0, 5), 2);
        CHECK.due("none", owing(20).meeting(0, 6), 0);
    }

    private static void whoHasKey() {
        KeyBox box = Told.group(3, "").meet(0).left(1).meet(1).play();
        int[][] keys = {{0, 1, 2}, {0, KeyBox.NONE, 2}};
        for (int i = 0; i < 2; i++) {
            for (int k = 0; k < 3; k++) {
                CHECK.due("MEETING " + i + ", KEY " + k, box.meeting(i, 7 + k), keys[i][k]);
            }
            CHECK.due("KEY 3", box.meeting(i, 10), -9);
        }
    }

    private static void noSuchMeeting() {
        KeyBox box = Told.group(3, "").meet(3).meet(4).play();
        for (int none : new int[] {-1, MIN, MAX}) {
            CHECK.due("meeting(" + none + ", 0)", box.meeting(none, 0), -9);
            CHECK.due("meeting(0, " + none + ")", box.meeting(0, none), -9);
        }
        CHECK.due("the last one", box.meeting(1, 9), 2);
        CHECK.due("one behind it", box.meeting(2, 9), -9);
        CHECK.due("what 10", box.meeting(1, 10), -9);
        KeyBox empty = new KeyBox();
        empty.play(0);
        CHECK.due("of an empty LOG", empty.meeting(0, 0), -9);
    }

    // ---- sum

    private static void openAndShut() {
        KeyBox box = Told.group(3, "").meet(0).meetOf(1, 0).meetOf(2, 3).meet(3).meetOf(4, 0).play();
        CHECK.due("OPEN", box.sum(0), 2);
        CHECK.due("SHUT", box.sum(1), 3);
    }

    private static void atTheEnd() {
        KeyBox box = Told.group(3, "social 4; flat 0;").meet(0).buy(0, 5).ask(0, 20).meet(1).fine(1, 3)
                .meetOf(2, 0).robbed(1).play();
        CHECK.due("BOX", box.sum(2), 32);
        CHECK.due("FUND", box.sum(3), 24);
        CHECK.due("owed", box.sum(4), 20);
    }

    private static void totalBehindDefaults() {
        KeyBox box = Told.group(4, "flat 0; loan 900;").meet(0).buyOneEach(3).fine(3, 2).ask(0, 13).play();
        CHECK.due("TOTAL", box.sum(5), 19);
        CHECK.due("REST", box.sum(6), 1);
        CHECK.due("TOTAL without DEFAULTS", owing(4).sum(5), 20);
    }

    private static void lost() {
        KeyBox box = Told.group(5, "turn 52; flat 0; loan 900; social 0;").meet(0).buyOneEach(4).ask(3, 12).ask(0, 13)
                .meet(1).left(3).play();
        // 3 owed 12 of 10; then 28 by three, 0 owes 13 of 9
        CHECK.due("by who are GONE", box.sum(7), 2);
        CHECK.due("by DEFAULTS", box.sum(8), 4);
        KeyBox none = owing(10);
        CHECK.due("by who are GONE, none", none.sum(7), 0);
        CHECK.due("by DEFAULTS, none", none.sum(8), 0);
    }

    private static void robbedAndPaid() {
        KeyBox box = Told.group(4, "turn 52; death 3; social 2;").meet(0).buy(0, 1).robbed(6).robbed(1000000).died(3)
                .died(2).died(1).play();
        CHECK.due("robbed, what there was", box.sum(9), 10);
        CHECK.due("paid, what there was", box.sum(10), 8);
    }

    private static void interestInAll() {
        KeyBox flat = Told.group(3, "flat 10; weeks 4;").meet(0).buy(0, 5).ask(0, 20)
                .meet(1).pay(0, 22).ask(0, 30).play();
        CHECK.due("flat, two loans", flat.sum(11), 2 + 3);
        KeyBox falling = Told.group(3, "falling 10;").meet(0).buy(0, 5).buy(1, 5).ask(0, 20).ask(1, 50)
                .meet(4).pay(1, 55).meet(8).play();
        CHECK.due("falling, two loans", falling.sum(11), 2 + 5 + 2);
        KeyBox gone = Told.group(4, "turn 52; flat 10; weeks 4;").meet(0).buy(3, 5).ask(3, 20).meet(1).left(3).play();
        CHECK.due("of who is GONE too", gone.sum(11), 2);
    }

    private static void noSuchSum() {
        KeyBox box = Told.group(3, "").meet(0).play();
        for (int none : new int[] {-1, 12, 13, MIN, MAX}) {
            CHECK.due("sum(" + none + ")", box.sum(none), -9);
        }
        CHECK.due("sum(11)", box.sum(11), 0);
        CHECK.due("ahead of any play()", new KeyBox().sum(0), -9);
    }
}
