/** The edges that the document names of what is done in an open meeting: Terms II, sentence by sentence. */
public final class MeetingEdgesTest {
    private static final Check CHECK = new Check();

    public static void main(String[] args) {
        beginnings();
        entries();
        leavings();
        queue();
        CHECK.finish();
    }

    private static void beginnings() {
        CHECK.sentence("As an OPEN one begins", MeetingEdgesTest::beginningIsFirst);
        CHECK.sentence("each MEMBER that is not GONE is asked", MeetingEdgesTest::notGoneAreAsked);
        CHECK.sentence("who is there pays social into the FUND", MeetingEdgesTest::social);
        CHECK.sentence("who isn't pays absent into the BOX", MeetingEdgesTest::absent);
        CHECK.sentence("for each 4 weeks (full ones", MeetingEdgesTest::fullFourWeeks);
        CHECK.sentence("since it was given", MeetingEdgesTest::sinceItWasGiven);
        CHECK.sentence("or since the latest such)", MeetingEdgesTest::sinceTheLatest);
        CHECK.sentence("its hundredths of what is owed are put to it", MeetingEdgesTest::ofWhatIsOwed);
        CHECK.sentence("(each time cut)", MeetingEdgesTest::eachTimeCut);
        CHECK.sentence("Each whose loan is LATE (weeks or more since it was given)", MeetingEdgesTest::lateByWeeks);
        CHECK.sentence("pays late into the BOX", MeetingEdgesTest::lateIntoTheBox);
    }

    private static void entries() {
        CHECK.sentence("ENTRIES of one who is not there (DIED, LEFT aside)", MeetingEdgesTest::notThere);
        CHECK.sentence("or is GONE do nothing", MeetingEdgesTest::gone);
        CHECK.sentence("BUY: stamps up to most in this MEETING", MeetingEdgesTest::upToMost);
        CHECK.sentence("the BOX has stamp for each", MeetingEdgesTest::stampForEach);
        CHECK.sentence("PAY: what is owed less, up to all", MeetingEdgesTest::upToAll);
        CHECK.sentence("PAY: what is owed less, up to all; the BOX has it", MeetingEdgesTest::boxHasPay);
        CHECK.sentence("FINE: the BOX has it", MeetingEdgesTest::boxHasFine);
        CHECK.sentence("ASK: it comes to the QUEUE, if the MEMBER owes nothing", MeetingEdgesTest::owesNothing);
        CHECK.sentence("has nothing in it", MeetingEdgesTest::nothingInTheQueue);
        CHECK.sentence("and asks for no more than loan hundredths of stamp times its stamps", MeetingEdgesTest::noMore);
        CHECK.sentence("loan hundredths of stamp times its stamps (cut)", MeetingEdgesTest::loanIsCut);
        CHECK.sentence("else REFUSED", MeetingEdgesTest::refused);
        CHECK.sentence("ROBBED: from the BOX, as far as it goes", MeetingEdgesTest::robbed);
    }

    private static void leavings() {
        CHECK.sentence("DIED: the FUND pays death, as far as it goes", MeetingEdgesTest::fundPaysDeath);
        CHECK.sentence("to who comes behind; then as LEFT", MeetingEdgesTest::thenAsLeft);
        CHECK.sentence("LEFT: GONE", MeetingEdgesTest::leftIsGone);
        CHECK.sentence("the BOX and all that is owed, times its stamps, over all stamps, cut", MeetingEdgesTest::worth);
        CHECK.sentence("0 without stamps)", MeetingEdgesTest::worthWithoutStamps);
        CHECK.sentence("less what it owes, is paid from the BOX", MeetingEdgesTest::lessWhatItOwes);
        CHECK.sentence("is paid from the BOX as far as it goes", MeetingEdgesTest::paidAsFarAsItGoes);
        CHECK.sentence("what it owes beyond that WORTH is lost", MeetingEdgesTest::beyondWorth);
        CHECK.sentence("its stamps, loan and place in the QUEUE are none any more", MeetingEdgesTest::noneAnyMore);
    }

    private static void queue() {
        CHECK.sentence("first: as they asked", MeetingEdgesTest::orderFirst);
        CHECK.sentence("small: the least sum first", MeetingEdgesTest::orderSmall);
        CHECK.sentence("saved: who has most stamps first", MeetingEdgesTest::orderSaved);
        CHECK.sentence("(of alike ones as they asked)", MeetingEdgesTest::alikeOnes);
        CHECK.sentence("each whose sum the BOX has is given it", MeetingEdgesTest::boxHasTheSum);
        CHECK.sentence("the others stay, and have WAITED one MEETING more", MeetingEdgesTest::othersStay);
        CHECK.sentence("At its end", MeetingEdgesTest::queueAtTheEnd);
        CHECK.sentence("What is owed: the sum", MeetingEdgesTest::owedIsTheSum);
        CHECK.sentence("with flat its hundredths (cut)", MeetingEdgesTest::flatIsCut);
        CHECK.sentence("for each begun 4 of weeks besides", MeetingEdgesTest::begunFours);
    }

    // ---- as an open one begins

    private static void beginningIsFirst() {
        KeyBox box = Told.group(4, "turn 52; social 5; death 100; absent 3;")
                .meetWithout(0, 3).buy(3, 1).died(2).play();
        CHECK.due("the FUND paid what came this day", box.sum(10), 15);
        CHECK.due("dues of who died this day", box.member(2, 4), 5);
        CHECK.due("BOX", box.sum(2), 3);
    }

    private static void notGoneAreAsked() {
        KeyBox box = Told.group(4, "turn 52; social 7; absent 5;").meetWithout(0, 3).left(3).meet(1)
                .meetWithout(2, 3).play();
        CHECK.due("FUND 0", box.meeting(0, 3), 21);
        CHECK.due("BOX 0", box.meeting(0, 2), 5);
        CHECK.due("FUND 1, it being there", box.meeting(1, 3), 42);
        CHECK.due("BOX 2, it being elsewhere", box.meeting(2, 2), 5);
        CHECK.due("dues of who is GONE", box.member(3, 4), 5);
        CHECK.due("dues of another", box.member(0, 4), 21);
    }

    private static void social() {
        for (int social : new int[] {0, 1, 1000}) {
            KeyBox box = Told.group(5, "turn 52; social " + social + ";").meetWithout(0, 4).play();
            CHECK.due("FUND, social " + social, box.sum(3), 4 * social);
            CHECK.due("BOX, social " + social, box.sum(2), 0);
            CHECK.due("paid by 0", box.member(0, 4), social);
            CHECK.due("paid by 4, not there", box.member(4, 4), 0);
        }
    }

    private static void absent() {
        for (int absent : new int[] {0, 1, 1000}) {
            KeyBox box = Told.group(5, "turn 52; social 0; absent " + absent + ";").meetWithout(0, 3, 4).play();
            CHECK.due("BOX, absent " + absent, box.sum(2), 2 * absent);
            CHECK.due("FUND, absent " + absent, box.sum(3), 0);
            CHECK.due("paid by 4", box.member(4, 4), absent);
            CHECK.due("paid by 0, there", box.member(0, 4), 0);
        }
    }

    /** A loan of 100 given in week 2, and one MEETING so many weeks behind it. */
    private static KeyBox loanOf100(String text, int weeksBehind) {
        return Told.group(3, text).meet(2).buy(0, 5).buy(1, 5).ask(0, 100).meet(2 + weeksBehind).play();
    }

    private static void fullFourWeeks() {
        int[][] weeksAndOwed = {{1, 100}, {3, 100}, {4, 110}, {5, 110}, {7, 110}, {8, 121}, {11, 121}, {12, 133},
                {48, 309}};
        for (int[] row : weeksAndOwed) {
            KeyBox box = loanOf100("falling 10;", row[0]);
            CHECK.due("owed, " + row[0] + " weeks behind", box.member(0, 1), row[1]);
            CHECK.due("interest", box.sum(11), row[1] - 100);
        }
        KeyBox last = Told.group(24, "falling 10;").meet(0).buy(23, 5).ask(23, 50).meet(4).play();
        CHECK.due("owed by the last of 24", last.member(23, 1), 55);
        CHECK.due("falling 0", loanOf100("falling 0;", 49).member(0, 1), 100);
        CHECK.due("falling 50", loanOf100("falling 50;", 8).member(0, 1), 225);
        CHECK.due("flat does not grow", loanOf100("flat 0;", 49).member(0, 1), 100);
    }

    private static void sinceItWasGiven() {
        // Asked in week 0, given in week 3
        KeyBox box = Told.group(3, "falling 10;").meet(0).buy(0, 5).ask(0, 100).meet(3).fine(1, 50).meet(4).meet(6)
                .meet(7).play();
        int[] owed = {0, 100, 100, 100, 110};
        for (int i = 0; i < owed.length; i++) {
            CHECK.due("owed at MEETING " + i, box.meeting(i, 4), owed[i]);
        }
        // A second loan counts from its own week
        KeyBox again = Told.group(3, "falling 10;").meet(0).buy(0, 5).ask(0, 50).meet(3).pay(0, 50).ask(0, 50).meet(4)
                .meet(6).meet(7).play();
        int[] owedAgain = {50, 50, 50, 50, 55};
        for (int i = 0; i < owedAgain.length; i++) {
            CHECK.due("owed of the second at MEETING " + i, again.meeting(i, 4), owedAgain[i]);
        }
    }

    private static void sinceTheLatest() {
        KeyBox box = Told.group(3, "falling 10;").meet(0).buy(0, 5).buy(1, 5).ask(0, 100).meet(4).meet(5).meet(7)
                .meet(8).meet(9).meet(15).meet(16).play();
        int[] owed = {100, 110, 110, 110, 121, 121, 133, 146};
        for (int i = 0; i < owed.length; i++) {
            CHECK.due("owed at MEETING " + i, box.meeting(i, 4), owed[i]);
        }
        KeyBox odd = Told.group(3, "falling 10;").meet(0).buy(0, 5).buy(1, 5).ask(0, 100).meet(5).meet(8).play();
        CHECK.due("put in week 5 for four weeks", odd.meeting(1, 4), 110);
        CHECK.due("the next four are full in week 8", odd.meeting(2, 4), 121);
    }

    private static void ofWhatIsOwed() {
        KeyBox box = Told.group(3, "falling 20;").meet(0).buy(0, 5).buy(1, 5).ask(0, 100).meet(3).pay(0, 50).meet(4)
                .pay(0, 20).meet(8).pay(0, 48).meet(12).play();
        int[] owed = {100, 50, 40, 0, 0};
        for (int i = 0; i < owed.length; i++) {
            CHECK.due("owed at MEETING " + i, box.meeting(i, 4), owed[i]);
        }
        CHECK.due("interest", box.sum(11), 10 + 8);
    }

    private static void eachTimeCut() {
        KeyBox twice = Told.group(3, "falling 10;").meet(0).buy(0, 5).buy(1, 5).ask(0, 99).meet(8).play();
        CHECK.due("9 and 10, not 9.9 and 10.89", twice.member(0, 1), 118);
        KeyBox none = Told.group(3, "falling 10;").meet(0).buy(0, 5).ask(0, 9).meet(51).play();
        CHECK.due("less than a penny, twelve times", none.member(0, 1), 9);
        KeyBox one = Told.group(3, "falling 50;").meet(0).buy(0, 5).ask(0, 1).meet(51).play();
        CHECK.due("half a penny", one.member(0, 1), 1);
        KeyBox two = Told.group(3, "falling 50;").meet(0).buy(0, 5).ask(0, 2).meet(12).play();
        CHECK.due("2, 3, 4, 6", two.member(0, 1), 6);
    }

    private static void lateByWeeks() {
        int[][] weeksAndBehind = {{1, 1}, {6, 6}, {12, 12}, {40, 40}};
        for (int[] row : weeksAndBehind) {
            String text = "flat 0; late 7; weeks " + row[0] + ";";
            if (row[1] > 1) {
                CHECK.due("a week less than " + row[0], loanOf100(text, row[1] - 1).member(0, 4), 2);
            }
            CHECK.due(row[0] + " weeks", loanOf100(text, row[1]).member(0, 4), 2 + 7);
            CHECK.due("a week more than " + row[0], loanOf100(text, row[1] + 1).member(0, 4), 2 + 7);
        }
        KeyBox penny = Told.group(3, "flat 0; late 7; weeks 5; social 0;").meet(0).buy(0, 5).ask(0, 1).meet(5).play();
        CHECK.due("a penny is LATE too", penny.member(0, 4), 7);
        KeyBox given = Told.group(3, "flat 0; late 7; weeks 5; social 0;").meet(0).buy(0, 5).ask(0, 60).meet(3)
                .fine(1, 10).meet(7).meet(8).play();
        CHECK.due("week 7, given in week 3", given.meeting(2, 2), 0);
        CHECK.due("week 8", given.meeting(3, 2), 7);
    }

    private static void lateIntoTheBox() {
        KeyBox box = Told.group(4, "flat 0; late 7; weeks 2; social 0; turn 52;").meet(0).buy(3, 5).ask(3, 50).meet(2)
                .meetWithout(3, 3).meet(4).pay(3, 50).meet(5).play();
        int[] inBox = {0, 7, 14, 71, 71};
        for (int i = 0; i < inBox.length; i++) {
            CHECK.due("BOX at MEETING " + i, box.meeting(i, 2), inBox[i]);
            CHECK.due("FUND at MEETING " + i, box.meeting(i, 3), 0);
        }
        CHECK.due("paid by 3", box.member(3, 4), 21);
        CHECK.due("what is owed is as it was", box.meeting(2, 4), 50);
        CHECK.due("by who owes nothing", box.member(0, 4), 0);
        CHECK.due("late 0", loanOf100("flat 0; weeks 1;", 9).member(0, 4), 2);
        CHECK.due("late 1000", loanOf100("flat 0; weeks 1; late 1000;", 9).member(0, 4), 1002);
    }

    // ---- entries

    private static void notThere() {
        Told told = Told.group(4, "turn 52; flat 0; social 0;").meet(0).buy(3, 2).ask(3, 20);
        KeyBox box = told.meetWithout(1, 3).buy(3, 1).pay(3, 5).fine(3, 6).ask(3, 1).play();
        CHECK.dueRow("nothing was done", Check.member(box, 3), 2, 20, 20, 0, 0, 0, 0, 0, 0, 20, 0, 0, 2);
        CHECK.due("BOX", box.sum(2), 0);
        KeyBox died = Told.group(4, "turn 52;").meet(0).buy(3, 2).meetWithout(1, 3).died(3).play();
        CHECK.due("DIED is done", died.member(3, 7), 1);
        CHECK.due("the FUND pays", died.sum(10), 7);
        KeyBox left = Told.group(4, "turn 52;").meet(0).buy(3, 2).meetWithout(1, 3).left(3).play();
        CHECK.due("LEFT is done", left.member(3, 7), 1);
        CHECK.due("it got", left.member(3, 8), 20);
    }

    private static void gone() {
        Told told = Told.group(4, "turn 52; social 9; death 4; stamp 7;").meet(0).buy(0, 1).buy(3, 2).left(3);
        KeyBox box = told.buy(3, 1).ask(3, 1).pay(3, 1).fine(3, 1).died(3).left(3)
                .meet(1).buy(3, 1).fine(3, 2).died(3).play();
        CHECK.dueRow("who LEFT", Check.member(box, 3), 0, 0, 0, 0, 9, 0, 0, 1, 14, 0, 0, 0, 2);
        CHECK.due("paid by the FUND", box.sum(10), 0);
        CHECK.due("BOX", box.sum(2), 7);
        KeyBox died = Told.group(4, "turn 52; death 1;").meet(0).buy(0, 1).buy(3, 2).died(3).died(3).left(3).play();
        CHECK.due("who DIED twice, paid by the FUND", died.sum(10), 1);
        CHECK.due("got once", died.member(3, 8), 20);
        CHECK.due("BOX", died.sum(2), 10);
    }

    private static void upToMost() {
        int[][] mostBuysAndStamps = {{1, 9, 1, 1}, {9, 9, 9, 9}, {5, 4, 4, 5}, {5, 5, 1, 5}, {5, 2, 3, 5},
                {5, 2, 2, 4}};
        for (int[] row : mostBuysAndStamps) {
            KeyBox box = Told.group(3, "most " + row[0] + ";").meet(0).buy(1, row[1]).buy(0, 1).buy(1, row[2]).play();
            CHECK.due("most " + row[0] + ", " + row[1] + " and " + row[2], box.member(1, 0), row[3]);
            CHECK.due("bought", box.member(1, 12), row[3]);
            CHECK.due("of another", box.member(0, 0), 1);
        }
        KeyBox thrice = Told.group(3, "most 5;").meet(0).buy(1, 2).buy(1, 2).buy(1, 2).buy(1, 1).play();
        CHECK.due("2 and 2 and 2 and 1", thrice.member(1, 0), 5);
        KeyBox next = Told.group(3, "most 2;").meet(0).buy(1, 9).meet(1).buy(1, 9).play();
        CHECK.due("the next MEETING begins anew", next.member(1, 0), 4);
    }

    private static void stampForEach() {
        for (int stamp : new int[] {1, 10, 1000}) {
            KeyBox box = Told.group(3, "most 9; stamp " + stamp + ";").meet(0).buy(0, 9).buy(1, 1).buy(0, 1).play();
            CHECK.due("BOX, stamp " + stamp, box.sum(2), 10 * stamp);
            CHECK.due("all stamps", box.meeting(0, 5), 10);
        }
    }

    private static void upToAll() {
        int[][] paidAndOwed = {{1, 99}, {99, 1}, {100, 0}, {101, 0}, {100000, 0}};
        for (int[] row : paidAndOwed) {
            KeyBox box = loanPaid(row[0]);
            CHECK.due("owes, " + row[0] + " paid", box.member(0, 1), row[1]);
            CHECK.due("paid back", box.member(0, 3), 100 - row[1]);
        }
        KeyBox none = Told.group(3, "").meet(0).pay(0, 5).play();
        CHECK.due("who owes nothing pays nothing", none.member(0, 3), 0);
        CHECK.due("and owes nothing", none.member(0, 1), 0);
    }

    private static KeyBox loanPaid(int pence) {
        return Told.group(3, "flat 0;").meet(0).buy(0, 5).buy(1, 5).ask(0, 100).meet(1).pay(0, pence).play();
    }

    private static void boxHasPay() {
        CHECK.due("1 paid", loanPaid(1).sum(2), 1);
        CHECK.due("100 paid", loanPaid(100).sum(2), 100);
        CHECK.due("101 paid", loanPaid(101).sum(2), 100);
        CHECK.due("nothing owed", Told.group(3, "").meet(0).pay(0, 5).play().sum(2), 0);
    }

    private static void boxHasFine() {
        KeyBox box = Told.group(3, "social 2;").meet(0).fine(0, 1).fine(0, 1000).fine(2, 30).play();
        CHECK.due("BOX", box.sum(2), 1031);
        CHECK.due("FUND", box.sum(3), 6);
        CHECK.due("paid by 0", box.member(0, 4), 1003);
    }

    private static void owesNothing() {
        KeyBox box = Told.group(3, "flat 0;").meet(0).buy(0, 5).ask(0, 50).meet(1).pay(0, 49).ask(0, 1).meet(2)
                .pay(0, 1).ask(0, 2).play();
        CHECK.due("QUEUE while 1 is owed", box.meeting(1, 4), 1);
        CHECK.due("REFUSED", box.member(0, 6), 1);
        CHECK.due("lent when nothing was owed", box.member(0, 2), 52);
    }

    private static void nothingInTheQueue() {
        KeyBox box = Told.group(3, "").meet(0).buy(0, 5).ask(0, 60).ask(0, 1).meet(1).ask(0, 1).play();
        CHECK.due("REFUSED", box.member(0, 6), 2);
        CHECK.due("QUEUE", box.meeting(1, 6), 1);
        CHECK.due("WAITED", box.member(0, 5), 2);
        CHECK.due("lent", box.member(0, 2), 0);
        KeyBox penny = Told.group(3, "").meet(0).buy(0, 5).robbed(50).ask(0, 1).ask(0, 1).meet(1).ask(0, 1).play();
        CHECK.due("REFUSED while a penny is asked for", penny.member(0, 6), 2);
        CHECK.due("QUEUE", penny.meeting(1, 6), 1);
    }

    private static void noMore() {
        int[][] loanAndMost = {{1, 4}, {100, 400}, {300, 1200}, {900, 3600}};
        for (int[] row : loanAndMost) {
            String text = "stamp 100; loan " + row[0] + ";";
            KeyBox most = Told.group(3, text).meet(0).buy(0, 4).ask(0, row[1]).play();
            CHECK.due("loan " + row[0] + ", REFUSED at the most", most.member(0, 6), 0);
            KeyBox more = Told.group(3, text).meet(0).buy(0, 4).ask(0, row[1] + 1).play();
            CHECK.due("loan " + row[0] + ", REFUSED with one more", more.member(0, 6), 1);
            CHECK.due("loan " + row[0] + ", QUEUE", more.meeting(0, 6), 0);
        }
        KeyBox none = Told.group(3, "loan 0;").meet(0).buy(0, 5).ask(0, 1).play();
        CHECK.due("loan 0", none.member(0, 6), 1);
        KeyBox bare = Told.group(3, "loan 900;").meet(0).ask(0, 1).buy(0, 1).ask(0, 1).play();
        CHECK.due("without stamps", bare.member(0, 6), 1);
        CHECK.due("with one", bare.member(0, 2), 1);
    }

    private static void loanIsCut() {
        // 3 stamps of 7 are 21; 150 hundredths are 31.5
        KeyBox cut = Told.group(3, "stamp 7; loan 150;").meet(0).buy(0, 3).ask(0, 32).ask(0, 31).play();
        CHECK.due("REFUSED", cut.member(0, 6), 1);
        CHECK.due("QUEUE", cut.meeting(0, 6), 1);
        // 99 hundredths of a penny
        KeyBox penny = Told.group(3, "stamp 1; loan 99;").meet(0).buy(0, 1).ask(0, 1).play();
        CHECK.due("REFUSED", penny.member(0, 6), 1);
        KeyBox pence = Told.group(3, "stamp 1; loan 99;").meet(0).buy(0, 2).ask(0, 1).play();
        CHECK.due("REFUSED", pence.member(0, 6), 0);
    }

    private static void refused() {
        KeyBox box = Told.group(4, "turn 52;").meet(0).buy(0, 5).ask(0, 151).ask(0, 100000).ask(1, 1).play();
        CHECK.due("REFUSED 0", box.member(0, 6), 2);
        CHECK.due("REFUSED 1", box.member(1, 6), 1);
        CHECK.due("WAITED 0", box.member(0, 5), 0);
        CHECK.due("QUEUE", box.meeting(0, 6), 0);
        CHECK.due("BOX", box.sum(2), 50);
        KeyBox given = Told.group(4, "turn 52;").meet(0).buy(0, 5).ask(0, 50).play();
        CHECK.due("none REFUSED", given.member(0, 6), 0);
    }

    private static void robbed() {
        int[][] robbedAndLeft = {{1, 49}, {49, 1}, {50, 0}, {51, 0}, {1000000, 0}};
        for (int[] row : robbedAndLeft) {
            KeyBox box = Told.group(3, "").meet(0).buy(0, 5).robbed(row[0]).play();
            CHECK.due("BOX, " + row[0] + " robbed of 50", box.sum(2), row[1]);
            CHECK.due("robbed", box.sum(9), 50 - row[1]);
            CHECK.due("FUND", box.sum(3), 3);
        }
        KeyBox empty = Told.group(3, "").meet(0).robbed(5).buy(0, 1).robbed(3).robbed(9).robbed(1).play();
        CHECK.due("BOX", empty.sum(2), 0);
        CHECK.due("robbed", empty.sum(9), 10);
    }

    // ---- who dies, who leaves

    private static void fundPaysDeath() {
        int[][] deathAndPaid = {{0, 0}, {1, 1}, {19, 19}, {20, 20}, {21, 20}, {50000, 20}};
        for (int[] row : deathAndPaid) {
            KeyBox box = Told.group(4, "turn 52; social 5; death " + row[0] + ";").meet(0).died(3).play();
            CHECK.due("paid, death " + row[0], box.sum(10), row[1]);
            CHECK.due("FUND", box.sum(3), 20 - row[1]);
            CHECK.due("BOX", box.sum(2), 0);
        }
        KeyBox two = Told.group(4, "turn 52; social 5; death 15;").meet(0).died(3).died(2).died(1).play();
        CHECK.due("15, then 5, then nothing", two.sum(10), 20);
        CHECK.due("FUND", two.sum(3), 0);
        KeyBox none = Told.group(4, "turn 52; social 0;").meet(0).died(3).play();
        CHECK.due("an empty FUND", none.sum(10), 0);
    }

    private static void thenAsLeft() {
        Told told = Told.group(4, "turn 52; flat 0; death 3;").meet(0).buy(0, 1).buy(3, 3).ask(3, 20).meet(1).died(3);
        KeyBox box = told.play();
        CHECK.dueRow("MEMBER 3", Check.member(box, 3), 0, 0, 20, 0, 2, 0, 0, 1, 10, 0, 0, 0, 3);
        CHECK.due("BOX", box.sum(2), 10);
        CHECK.due("paid by the FUND", box.sum(10), 3);
        KeyBox poor = Told.group(4, "turn 52; flat 50; weeks 4;").meet(0).buy(0, 1).buy(3, 1).ask(3, 20)
                .meet(1).died(3).play();
        CHECK.due("owed beyond WORTH: 30 less 15", poor.sum(7), 15);
    }

    private static void leftIsGone() {
        KeyBox box = Told.group(4, "turn 52;").meet(0).left(3).meet(1).play();
        CHECK.due("GONE", box.member(3, 7), 1);
        CHECK.due("not GONE", box.member(2, 7), 0);
        CHECK.due("LEFT has nothing of the FUND", box.sum(10), 0);
        CHECK.due("FUND", box.sum(3), 4 + 3);
    }

    private static void worth() {
        // 4 stamps, and 3 pence of a FINE: 43, and nothing owed
        KeyBox third = Told.group(4, "turn 52;").meet(0).buy(0, 3).buy(3, 1).fine(1, 3).left(3).play();
        CHECK.due("43 / 4, cut", third.member(3, 8), 10);
        CHECK.due("BOX", third.sum(2), 33);
        KeyBox owed = Told.group(4, "turn 52; flat 50; weeks 4;").meet(0).buy(0, 3).buy(3, 1).ask(0, 10)
                .meet(1).left(3).play();
        CHECK.due("30 and 15 owed, / 4, cut", owed.member(3, 8), 11);
        KeyBox all = Told.group(4, "turn 52;").meet(0).buy(3, 1).fine(1, 3).left(3).play();
        CHECK.due("all stamps are its own", all.member(3, 8), 13);
        CHECK.due("BOX", all.sum(2), 0);
        KeyBox row = Told.group(4, "turn 52;").meet(0).buyOneEach(4).fine(1, 3).left(3, 2, 1, 0).play();
        CHECK.due("43 / 4", row.member(3, 8), 10);
        CHECK.due("33 / 3", row.member(2, 8), 11);
        CHECK.due("22 / 2", row.member(1, 8), 11);
        CHECK.due("11", row.member(0, 8), 11);
    }

    private static void worthWithoutStamps() {
        KeyBox none = Told.group(4, "turn 52;").meet(0).buy(0, 3).left(3).play();
        CHECK.due("without its own", none.member(3, 8), 0);
        CHECK.due("BOX", none.sum(2), 30);
        KeyBox nobody = Told.group(4, "turn 52;").meet(0).fine(0, 30).left(3).play();
        CHECK.due("without any at all", nobody.member(3, 8), 0);
        CHECK.due("BOX", nobody.sum(2), 30);
        CHECK.due("lost", nobody.sum(7), 0);
    }

    /** TOTAL is 40 and its WORTH 20; it owes so much as it asked for. */
    private static KeyBox leftOwing(int pence) {
        return Told.group(4, "turn 52; flat 0;").meet(0).buy(0, 2).buy(3, 2).ask(3, pence).meet(1).left(3).play();
    }

    private static void lessWhatItOwes() {
        int[][] owesAndGot = {{1, 19}, {19, 1}, {20, 0}, {21, 0}, {40, 0}};
        for (int[] row : owesAndGot) {
            KeyBox box = leftOwing(row[0]);
            CHECK.due("got, " + row[0] + " owed of 20", box.member(3, 8), row[1]);
            CHECK.due("BOX", box.sum(2), 40 - row[0] - row[1]);
        }
    }

    private static void paidAsFarAsItGoes() {
        int[][] lentAndGot = {{19, 20}, {20, 20}, {21, 19}, {39, 1}, {40, 0}};
        for (int[] row : lentAndGot) {
            KeyBox box = Told.group(4, "turn 52; flat 0;").meet(0).buy(0, 2).buy(3, 2).ask(0, row[0])
                    .meet(1).left(3).play();
            CHECK.due("got, the BOX being " + (40 - row[0]), box.member(3, 8), row[1]);
            CHECK.due("BOX", box.sum(2), 40 - row[0] - row[1]);
            CHECK.due("what is missing is not lost by it", box.sum(7), 0);
        }
    }

    private static void beyondWorth() {
        int[][] owesAndLost = {{19, 0}, {20, 0}, {21, 1}, {40, 20}};
        for (int[] row : owesAndLost) {
            CHECK.due("lost, " + row[0] + " owed of 20", leftOwing(row[0]).sum(7), row[1]);
        }
        KeyBox two = Told.group(5, "turn 52; flat 0;").meet(0).buyOneEach(5).ask(3, 25).ask(4, 20)
                .meet(1).left(3, 4).play();
        // 50 / 5 of 25, then 25 / 4 of 20
        CHECK.due("lost by two", two.sum(7), 15 + 14);
    }

    private static void noneAnyMore() {
        KeyBox box = leftOwing(30);
        CHECK.due("stamps", box.member(3, 0), 0);
        CHECK.due("owes", box.member(3, 1), 0);
        CHECK.due("all stamps", box.meeting(1, 5), 2);
        CHECK.due("all that is owed", box.meeting(1, 4), 0);
        KeyBox queue = Told.group(5, "turn 52; flat 0;").meet(0).buyOneEach(5).ask(2, 9).ask(3, 11).ask(4, 12)
                .left(3).play();
        CHECK.due("lent to who was ahead", queue.member(2, 2), 9);
        CHECK.due("lent to who is GONE", queue.member(3, 2), 0);
        CHECK.due("WAITED", queue.member(3, 5), 0);
        CHECK.due("lent to who was behind", queue.member(4, 2), 12);
        KeyBox waiting = Told.group(4, "turn 52;").meet(0).buy(3, 2).ask(3, 60).meet(1).left(3)
                .meet(2).fine(0, 99).play();
        CHECK.due("QUEUE ahead of it", waiting.meeting(0, 6), 1);
        CHECK.due("QUEUE behind it", waiting.meeting(1, 6), 0);
        CHECK.due("lent", waiting.member(3, 2), 0);
        CHECK.due("WAITED", waiting.member(3, 5), 1);
    }

    // ---- the queue

    /** The BOX has 60; 2 has one stamp, 1 has two, 0 has three. */
    private static Told savers(String order) {
        return Told.group(3, "flat 0; loan 900; order " + order + ";").meet(0).buy(0, 3).buy(1, 2).buy(2, 1);
    }

    private static void dueLent(String what, Told told, int... lent) {
        KeyBox box = told.play();
        for (int m = 0; m < lent.length; m++) {
            CHECK.due(what + ", lent to " + m, box.member(m, 2), lent[m]);
        }
    }

    private static void orderFirst() {
        dueLent("2, 0, 1", savers("first").ask(2, 30).ask(0, 25).ask(1, 20), 25, 0, 30);
        dueLent("1, 0, 2", savers("first").ask(1, 30).ask(0, 31).ask(2, 30), 0, 30, 30);
        dueLent("who asked a MEETING before is first", savers("first").ask(1, 61)
                .meet(1).ask(0, 60).fine(2, 1), 0, 61, 0);
    }

    private static void orderSmall() {
        dueLent("the least last", savers("small").ask(2, 30).ask(0, 25).ask(1, 20), 25, 20, 0);
        dueLent("by one penny", savers("small").ask(0, 31).ask(1, 30), 0, 30, 0);
        dueLent("asked a MEETING later", savers("small").ask(1, 61).meet(1).ask(0, 60).fine(2, 1), 60, 0, 0);
    }

    private static void orderSaved() {
        dueLent("the richest last", savers("saved").ask(2, 20).ask(1, 30).ask(0, 40), 40, 0, 20);
        dueLent("as it is at the end", savers("saved").ask(2, 40).ask(0, 40).buy(2, 3).robbed(30), 0, 0, 40);
        dueLent("asked a MEETING later", savers("saved").ask(1, 61).meet(1).ask(0, 60).fine(2, 1), 60, 0, 0);
    }

    private static void alikeOnes() {
        Told small = Told.group(4, "flat 0; order small;").meet(0).buyOneEach(4);
        dueLent("alike sums", small.ask(3, 15).ask(1, 15).ask(0, 15).ask(2, 14), 0, 0, 14, 15);
        Told saved = Told.group(4, "flat 0; order saved;").meet(0).buyOneEach(4).buy(2, 1);
        dueLent("alike stamps", saved.ask(3, 25).ask(1, 16).ask(0, 15).ask(2, 14), 0, 0, 14, 25);
    }

    private static void boxHasTheSum() {
        int[][] askedAndLent = {{1, 1}, {59, 59}, {60, 60}, {61, 0}};
        for (int[] row : askedAndLent) {
            KeyBox box = savers("first").ask(0, row[0]).play();
            CHECK.due("lent, " + row[0] + " of 60", box.member(0, 2), row[1]);
            CHECK.due("BOX", box.sum(2), 60 - row[1]);
        }
        dueLent("one that is too much keeps nobody", savers("first").ask(0, 61).ask(1, 40).ask(2, 20), 0, 40, 20);
        dueLent("the first leaves too little", savers("first").ask(0, 40).ask(1, 21).ask(2, 20), 40, 0, 20);
        dueLent("who is not there too", savers("first").ask(0, 61).meet(1).fine(1, 1), 61, 0, 0);
        KeyBox away = Told.group(4, "turn 52; flat 0;").meet(0).buy(3, 1).ask(3, 11)
                .meetWithout(1, 3).fine(0, 1).play();
        CHECK.due("lent to one who is not there", away.member(3, 2), 11);
    }

    private static void othersStay() {
        Told told = Told.group(4, "turn 52; flat 0;").meet(0).buy(0, 5).buy(1, 1).ask(0, 120).ask(1, 30).meet(1)
                .meetWithout(2, 0).meet(3).ask(1, 30).meet(4).fine(2, 90).meet(5);
        KeyBox box = told.play();
        int[] waiting = {1, 1, 1, 1, 0, 0};
        for (int i = 0; i < waiting.length; i++) {
            CHECK.due("QUEUE at MEETING " + i, box.meeting(i, 6), waiting[i]);
        }
        CHECK.due("WAITED, a SHUT one aside", box.member(0, 5), 3);
        CHECK.due("WAITED of who was given it at once", box.member(1, 5), 0);
        CHECK.due("lent", box.member(0, 2), 120);
        KeyBox penny = Told.group(3, "flat 0;").meet(0).buy(0, 5).robbed(50).ask(0, 1).meet(1)
                .meet(2).fine(1, 1).play();
        CHECK.due("QUEUE for a penny", penny.meeting(1, 6), 1);
        CHECK.due("WAITED for a penny", penny.member(0, 5), 2);
        CHECK.due("lent", penny.member(0, 2), 1);
    }

    private static void queueAtTheEnd() {
        dueLent("what comes behind the ASK counts", savers("first").ask(0, 61).fine(2, 1), 61, 0, 0);
        dueLent("what goes behind the ASK counts", savers("first").ask(0, 60).robbed(1), 0, 0, 0);
        KeyBox box = savers("first").ask(0, 60).pay(0, 60).play();
        CHECK.due("nothing is owed ahead of the end", box.member(0, 3), 0);
        CHECK.due("owes", box.member(0, 1), 60);
    }

    private static void owedIsTheSum() {
        for (String text : new String[] {"flat 0;", "falling 50;", "falling 0;"}) {
            KeyBox box = Told.group(3, text).meet(0).buy(0, 5).ask(0, 33).play();
            CHECK.due("owes, " + text, box.member(0, 1), 33);
            CHECK.due("lent, " + text, box.member(0, 2), 33);
            CHECK.due("interest, " + text, box.sum(11), 0);
        }
    }

    private static void flatIsCut() {
        int[][] flatSumAndOwed = {{10, 9, 9}, {10, 10, 11}, {10, 19, 20}, {50, 1, 1}, {50, 3, 4}, {1, 99, 99},
                {1, 100, 101}};
        for (int[] row : flatSumAndOwed) {
            KeyBox box = Told.group(3, "weeks 4; flat " + row[0] + ";")
                    .meet(0).buy(0, 5).buy(1, 5).ask(0, row[1]).play();
            CHECK.due(row[1] + " at flat " + row[0], box.member(0, 1), row[2]);
        }
        // Cut for one 4 of weeks already: 1 and 1 and 1, not 5.7 in all
        KeyBox thrice = Told.group(3, "weeks 12; flat 10;").meet(0).buy(0, 5).ask(0, 19).play();
        CHECK.due("three times", thrice.member(0, 1), 22);
    }

    private static void begunFours() {
        for (int weeks = 1; weeks <= 40; weeks++) {
            KeyBox box = Told.group(3, "flat 10; weeks " + weeks + ";").meet(0).buy(0, 5).ask(0, 20).meet(51).play();
            int begun = weeks % 4 == 0 ? weeks / 4 : weeks / 4 + 1;
            CHECK.due("weeks " + weeks, box.meeting(0, 4), 20 + 2 * begun);
            CHECK.due("and no more later", box.meeting(1, 4), 20 + 2 * begun);
            CHECK.due("interest", box.sum(11), 2 * begun);
        }
    }
}
