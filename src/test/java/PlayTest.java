/** Promises 12 to 15: play, member, meeting, sum. */
public final class PlayTest {
    private static final Check CHECK = new Check();
    private static final int BUY = 1;
    private static final int ASK = 2;
    private static final int PAY = 3;
    private static final int FINE = 4;
    private static final int DIED = 5;
    private static final int LEFT = 6;
    private static final int ROBBED = 7;

    public static void main(String[] args) {
        playRefusesRulesThatAreNone();
        emptyLogIsPlayed();
        keysGoRound();
        keysOfTheGone();
        keyOfTheGoneGoesToTheNext();
        keysRunOut();
        shutMeetingsDoNothing();
        socialAndAbsent();
        stampsUpToMost();
        asksRefused();
        absentOnesDoNothing();
        queueAsTheyAsked();
        queueByLeastSum();
        queueByMostStamps();
        waitingIsCounted();
        queueClosesUp();
        loansOfOnePenny();
        playingAgain();
        flatInterest();
        fallingInterest();
        lateLoans();
        payingBack();
        deathsPaidByTheFund();
        leavingWithAnEmptyBox();
        leavingWithALoan();
        goneOnesDoNothing();
        robberies();
        partingWithoutStamps();
        partingWithDefaults();
        partingWithRest();
        moneyBeyondAnInt();
        answersEndWithAChange();
        noneSuch();
        CHECK.finish();
    }

    private static KeyBox group(int members, String text) {
        KeyBox box = new KeyBox();
        box.members(members);
        Check.tell(box, 0, text);
        CHECK.due("the text '" + text + "' is right", box.fault(0), 0);
        return box;
    }

    private static void meet(KeyBox box, int week, int there, int[]... entries) {
        CHECK.due("meet in week " + week, box.entry(box.meet(week, there), 1), week);
        for (int[] entry : entries) {
            CHECK.due("enter kind " + entry[0], box.entry(box.enter(entry[0], entry[1], entry[2]), 0), entry[0]);
        }
    }

    private static int[] did(int kind, int m, int n) {
        return new int[] {kind, m, n};
    }

    private static void dueKeys(KeyBox box, int i, int a, int b, int c) {
        CHECK.due("meeting " + i + ", KEY 0", box.meeting(i, 7), a);
        CHECK.due("meeting " + i + ", KEY 1", box.meeting(i, 8), b);
        CHECK.due("meeting " + i + ", KEY 2", box.meeting(i, 9), c);
    }

    private static void playRefusesRulesThatAreNone() {
        KeyBox box = new KeyBox();
        for (int r : new int[] {-1, 4, Integer.MIN_VALUE, Integer.MAX_VALUE}) {
            CHECK.due("play(" + r + ")", box.play(r), KeyBox.RANGE);
        }
        CHECK.due("nothing is played", box.sum(0), -9);
        box.play(2);
        box.play(4);
        CHECK.due("the latest play() stays", box.count(4), 2);
    }

    private static void emptyLogIsPlayed() {
        KeyBox box = new KeyBox();
        CHECK.due("play(0)", box.play(0), 0);
        CHECK.dueRow("sums", Check.sums(box), new int[12]);
        CHECK.dueRow("member 2", Check.member(box, 2), new int[13]);
        CHECK.due("meeting(0, 0)", box.meeting(0, 0), -9);
    }

    private static void keysGoRound() {
        KeyBox box = group(5, "turn 4;");
        meet(box, 0, 0b11111);
        meet(box, 3, 0b00111);
        meet(box, 4, 0b11111);
        meet(box, 7, 0b11011);
        meet(box, 8, 0b11001);
        meet(box, 51, 0b11111);
        CHECK.due("play(0)", box.play(0), 5);
        dueKeys(box, 0, 0, 1, 2);
        dueKeys(box, 1, 0, 1, 2);
        dueKeys(box, 2, 3, 4, 0);
        dueKeys(box, 3, 3, 4, 0);
        dueKeys(box, 4, 1, 2, 3);
        dueKeys(box, 5, 1, 2, 3);
        int[] open = {1, 1, 1, 1, 0, 1};
        int[] weeks = {0, 3, 4, 7, 8, 51};
        for (int i = 0; i < open.length; i++) {
            CHECK.due("week of " + i, box.meeting(i, 0), weeks[i]);
            CHECK.due("open " + i, box.meeting(i, 1), open[i]);
        }
        CHECK.due("OPEN", box.sum(0), 5);
        CHECK.due("SHUT", box.sum(1), 1);
    }

    private static void keysOfTheGone() {
        KeyBox box = group(6, "turn 20;");
        meet(box, 0, 0b111111, did(LEFT, 1, 0));
        meet(box, 1, 0b111111, did(DIED, 2, 0));
        meet(box, 2, 0b111111, did(LEFT, 0, 0));
        meet(box, 3, 0b111000);
        meet(box, 20, 0b111000, did(LEFT, 5, 0), did(LEFT, 3, 0));
        meet(box, 21, 0b010000);
        CHECK.due("play(0)", box.play(0), 6);
        dueKeys(box, 0, 0, 1, 2);
        dueKeys(box, 1, 0, 3, 2);
        dueKeys(box, 2, 0, 3, 4);
        dueKeys(box, 3, 3, 4, 5);
        dueKeys(box, 4, 3, 4, 5);
        dueKeys(box, 5, -1, 4, -1);

        KeyBox round = group(4, "turn 1;");
        meet(round, 0, 0b1111, did(LEFT, 3, 0));
        meet(round, 1, 0b0111);
        round.play(0);
        dueKeys(round, 1, 2, 0, 1);
    }

    private static void keyOfTheGoneGoesToTheNext() {
        KeyBox box = group(6, "turn 52;");
        meet(box, 0, 63, did(LEFT, 2, 0));
        meet(box, 1, 0b001011);
        CHECK.due("play(0)", box.play(0), 2);
        dueKeys(box, 1, 0, 1, 3);
    }

    private static void keysRunOut() {
        KeyBox box = group(3, "");
        meet(box, 0, 7, did(BUY, 0, 1), did(LEFT, 0, 0), did(LEFT, 1, 0), did(LEFT, 2, 0));
        meet(box, 1, 7, did(FINE, 0, 5), did(ROBBED, 0, 4));
        CHECK.due("play(0)", box.play(0), 1);
        dueKeys(box, 1, -1, -1, -1);
        CHECK.due("nobody has a KEY: SHUT", box.meeting(1, 1), 0);
    }

    private static void shutMeetingsDoNothing() {
        KeyBox box = group(4, "absent 3; falling 10; late 5; weeks 1; turn 52;");
        meet(box, 0, 0b1111, did(BUY, 0, 5), did(ASK, 0, 20), did(BUY, 1, 1), did(ASK, 1, 30));
        meet(box, 4, 0b1011, did(BUY, 0, 1), did(PAY, 0, 5), did(FINE, 1, 2), did(DIED, 2, 0),
                did(LEFT, 3, 0), did(ASK, 3, 1), did(ROBBED, 0, 4));
        CHECK.due("play(0)", box.play(0), 1);
        CHECK.dueRow("meeting 0", Check.meeting(box, 0), 0, 1, 10, 4, 50, 6, 0, 0, 1, 2);
        CHECK.dueRow("meeting 1", Check.meeting(box, 1), 4, 0, 6, 4, 50, 6, 0, 0, 1, 2);
        CHECK.due("robbed", box.sum(9), 4);
        for (int m = 0; m < 4; m++) {
            CHECK.due("nobody is GONE", box.member(m, 7), 0);
            CHECK.due("social alone was paid", box.member(m, 4), 1);
        }
    }

    private static void socialAndAbsent() {
        KeyBox box = group(5, "social 7; absent 11; turn 52;");
        meet(box, 0, 0b10111);
        meet(box, 1, 0b01111, did(LEFT, 4, 0));
        meet(box, 2, 0b10111);
        box.play(0);
        CHECK.due("FUND 0", box.meeting(0, 3), 28);
        CHECK.due("BOX 0", box.meeting(0, 2), 11);
        CHECK.due("FUND 1", box.meeting(1, 3), 56);
        CHECK.due("BOX 1", box.meeting(1, 2), 22);
        CHECK.due("FUND 2, without who is GONE", box.meeting(2, 3), 77);
        CHECK.due("BOX 2", box.meeting(2, 2), 33);
        CHECK.due("paid by 3", box.member(3, 4), 11 + 7 + 11);
        CHECK.due("paid by 4", box.member(4, 4), 7 + 11);
    }

    private static void stampsUpToMost() {
        KeyBox box = group(3, "stamp 12; most 4;");
        meet(box, 0, 7, did(BUY, 0, 3), did(BUY, 1, 9), did(BUY, 0, 3), did(BUY, 0, 1));
        meet(box, 1, 7, did(BUY, 0, 2));
        box.play(0);
        CHECK.due("stamps of 0", box.member(0, 0), 6);
        CHECK.due("bought by 0", box.member(0, 12), 6);
        CHECK.due("stamps of 1", box.member(1, 0), 4);
        CHECK.due("BOX 0", box.meeting(0, 2), 8 * 12);
        CHECK.due("stamps at 0", box.meeting(0, 5), 8);
        CHECK.due("BOX 1", box.meeting(1, 2), 10 * 12);
        CHECK.due("stamps at 1", box.meeting(1, 5), 10);
    }

    private static void asksRefused() {
        KeyBox box = group(3, "stamp 7; loan 150; most 9;");
        // 3 stamps are 21 pence; 150 hundredths of that are 31.5, cut to 31
        meet(box, 0, 7, did(ASK, 0, 1), did(BUY, 0, 3), did(BUY, 1, 9), did(ASK, 0, 32), did(ASK, 0, 31), did(ASK, 0, 5));
        meet(box, 1, 7, did(ASK, 0, 1), did(PAY, 0, 100000), did(ASK, 0, 31), did(ASK, 2, 1));
        box.play(0);
        CHECK.due("refused to 0", box.member(0, 6), 4);
        CHECK.due("lent to 0", box.member(0, 2), 62);
        CHECK.due("refused to 2", box.member(2, 6), 1);
        CHECK.due("lent to 2", box.member(2, 2), 0);

        KeyBox none = group(3, "loan 0;");
        meet(none, 0, 7, did(BUY, 0, 5), did(ASK, 0, 1));
        none.play(0);
        CHECK.due("no loans at all", none.member(0, 6), 1);
    }

    private static void absentOnesDoNothing() {
        KeyBox box = group(4, "turn 52; flat 0;");
        meet(box, 0, 0b1111, did(BUY, 3, 5), did(ASK, 3, 20));
        meet(box, 1, 0b0111, did(BUY, 3, 1), did(PAY, 3, 1), did(FINE, 3, 1), did(ASK, 3, 1));
        CHECK.due("play(0)", box.play(0), 2);
        CHECK.dueRow("member 3", Check.member(box, 3), 5, 20, 20, 0, 1, 0, 0, 0, 0, 50, 30, 0, 5);
        meet(box, 2, 0b0111, did(DIED, 3, 0), did(LEFT, 3, 0));
        box.play(0);
        CHECK.due("DIED is done though not there", box.member(3, 7), 1);
        CHECK.due("it got 50 less 20", box.member(3, 8), 30);
    }

    private static void queueAsTheyAsked() {
        dueLent(queueOfFour("order first;"), 0, 60, 0, 100);
        dueLent(queueOfFour(""), 0, 60, 0, 100);
    }

    private static void queueByLeastSum() {
        dueLent(queueOfFour("order small;"), 0, 60, 30, 0);
        KeyBox alike = group(4, "order small;");
        meet(alike, 0, 15, did(BUY, 0, 5), did(BUY, 3, 5), did(ASK, 3, 60), did(ASK, 0, 60));
        alike.play(0);
        CHECK.due("of alike sums the first to ask", alike.member(3, 2), 60);
        CHECK.due("of alike sums the other waits", alike.member(0, 5), 1);
    }

    private static void queueByMostStamps() {
        dueLent(queueOfFour("order saved;"), 90, 0, 30, 0);
        KeyBox alike = group(4, "order saved;");
        meet(alike, 0, 15, did(BUY, 0, 5), did(BUY, 3, 5), did(ASK, 3, 80), did(ASK, 0, 70));
        alike.play(0);
        CHECK.due("of alike stamps the first to ask", alike.member(3, 2), 80);
        CHECK.due("of alike stamps the other waits", alike.member(0, 5), 1);
    }

    /** 160 pence in the BOX; 3 asks for 100, then 0 for 90, 1 for 60, 2 for 30. */
    private static KeyBox queueOfFour(String text) {
        KeyBox box = group(4, text);
        meet(box, 0, 15, did(BUY, 0, 5), did(BUY, 1, 2), did(BUY, 2, 5), did(BUY, 3, 4),
                did(ASK, 3, 100), did(ASK, 0, 90), did(ASK, 1, 60), did(ASK, 2, 30));
        return box;
    }

    private static void dueLent(KeyBox box, int... lent) {
        box.play(0);
        int all = 0;
        int waiting = 0;
        for (int m = 0; m < lent.length; m++) {
            CHECK.due("lent to " + m, box.member(m, 2), lent[m]);
            CHECK.due("WAITED " + m, box.member(m, 5), lent[m] > 0 ? 0 : 1);
            CHECK.due("REFUSED " + m, box.member(m, 6), 0);
            all += lent[m];
            waiting += lent[m] > 0 ? 0 : 1;
        }
        CHECK.due("BOX", box.meeting(0, 2), 160 - all);
        CHECK.due("QUEUE", box.meeting(0, 6), waiting);
    }

    private static void waitingIsCounted() {
        KeyBox box = group(4, "flat 0; turn 52;");
        meet(box, 0, 15, did(BUY, 0, 5), did(BUY, 1, 5), did(ASK, 0, 120), did(ASK, 1, 110));
        meet(box, 1, 14);
        meet(box, 2, 15, did(FINE, 2, 10));
        meet(box, 3, 7, did(FINE, 2, 10), did(LEFT, 3, 0));
        meet(box, 4, 7, did(LEFT, 1, 0));
        box.play(0);
        CHECK.due("QUEUE 0", box.meeting(0, 6), 2);
        CHECK.due("QUEUE at a SHUT one", box.meeting(1, 6), 2);
        CHECK.due("QUEUE 2: the second is served", box.meeting(2, 6), 1);
        CHECK.due("BOX 2", box.meeting(2, 2), 0);
        CHECK.due("BOX 3", box.meeting(3, 2), 10);
        CHECK.due("QUEUE 4", box.meeting(4, 6), 1);
        CHECK.due("WAITED 0", box.member(0, 5), 4);
        CHECK.due("WAITED 1", box.member(1, 5), 1);

        KeyBox gone = group(4, "turn 52;");
        meet(gone, 0, 15, did(BUY, 0, 5), did(ASK, 0, 120), did(BUY, 3, 5), did(ASK, 3, 130));
        meet(gone, 1, 15, did(LEFT, 3, 0), did(ASK, 3, 1));
        gone.play(0);
        CHECK.due("who is GONE is out of the QUEUE", gone.meeting(1, 6), 1);
        CHECK.due("WAITED 3", gone.member(3, 5), 1);
        CHECK.due("REFUSED 3", gone.member(3, 6), 0);
        CHECK.due("lent to 3", gone.member(3, 2), 0);
        CHECK.due("BOX", gone.sum(2), 50);
    }

    private static void queueClosesUp() {
        KeyBox box = group(3, "flat 0;");
        meet(box, 0, 7, did(BUY, 0, 5), did(BUY, 1, 5), did(ASK, 0, 60), did(ASK, 1, 70));
        meet(box, 1, 7, did(FINE, 2, 30));
        box.play(0);
        CHECK.due("QUEUE 0", box.meeting(0, 6), 1);
        CHECK.due("QUEUE 1", box.meeting(1, 6), 0);
        CHECK.due("lent to 0", box.member(0, 2), 60);
        CHECK.due("lent to 1", box.member(1, 2), 70);
        CHECK.due("WAITED 1", box.member(1, 5), 1);
    }

    private static void loansOfOnePenny() {
        KeyBox box = group(3, "falling 50; weeks 4; late 3; stamp 1;");
        meet(box, 0, 7, did(BUY, 0, 1), did(ROBBED, 0, 1), did(ASK, 0, 1));
        meet(box, 1, 7, did(ASK, 0, 2), did(FINE, 2, 2));
        meet(box, 5, 7, did(ASK, 0, 1));
        box.play(0);
        CHECK.due("QUEUE 0", box.meeting(0, 6), 1);
        CHECK.due("WAITED", box.member(0, 5), 1);
        CHECK.due("REFUSED while it waits, while it owes", box.member(0, 6), 2);
        CHECK.due("half a penny is cut", box.member(0, 1), 1);
        CHECK.due("social and late", box.member(0, 4), 3 + 3);
    }

    private static void playingAgain() {
        KeyBox box = group(4, "turn 52;");
        meet(box, 0, 15, did(BUY, 0, 5), did(ASK, 0, 120), did(BUY, 3, 5), did(FINE, 1, 3), did(LEFT, 2, 0));
        box.play(0);
        int[] first = Check.member(box, 0);
        int[] meeting = Check.meeting(box, 0);
        int[] sums = Check.sums(box);
        box.play(0);
        CHECK.dueRow("member 0 again", Check.member(box, 0), first);
        CHECK.dueRow("meeting 0 again", Check.meeting(box, 0), meeting);
        CHECK.dueRow("sums again", Check.sums(box), sums);
        CHECK.due("REFUSED again", box.member(0, 6), 0);
    }

    private static void flatInterest() {
        // 15 at 10 hundredths is 1.5, cut to 1, for each begun 4 of the weeks
        int[][] weeksAndOwed = {{1, 16}, {4, 16}, {5, 17}, {8, 17}, {9, 18}, {40, 25}};
        for (int[] row : weeksAndOwed) {
            KeyBox box = group(3, "flat 10; weeks " + row[0] + ";");
            meet(box, 0, 7, did(BUY, 0, 5), did(ASK, 0, 15));
            meet(box, 20, 7);
            box.play(0);
            CHECK.due("owed by flat, weeks " + row[0], box.member(0, 1), row[1]);
            CHECK.due("it does not grow", box.meeting(1, 4), row[1]);
            CHECK.due("interest", box.sum(11), row[1] - 15);
        }
    }

    private static void fallingInterest() {
        KeyBox box = group(3, "falling 10; most 9; stamp 20;");
        meet(box, 2, 7, did(BUY, 0, 9), did(ASK, 0, 99));
        meet(box, 5, 7);
        meet(box, 6, 7);
        meet(box, 13, 3);
        meet(box, 15, 7);
        meet(box, 18, 7, did(PAY, 0, 100));
        meet(box, 22, 7, did(PAY, 0, 100), did(ASK, 0, 50));
        meet(box, 25, 7);
        meet(box, 26, 7);
        CHECK.due("play(0)", box.play(0), 8);
        // Week 6 puts 9 to it; 13 is SHUT; 15 puts 10 and 11, for up to week 14; 18 puts 12, 22 puts 4;
        // the new loan of week 22 has 5 put to it in week 26.
        int[] owed = {99, 99, 108, 108, 129, 41, 50, 50, 55};
        for (int i = 0; i < owed.length; i++) {
            CHECK.due("owed by falling at " + i, box.meeting(i, 4), owed[i]);
        }
        CHECK.due("interest", box.sum(11), 9 + 10 + 11 + 12 + 4 + 5);
        CHECK.due("lent", box.member(0, 2), 149);
        CHECK.due("paid back", box.member(0, 3), 145);
        CHECK.due("owes", box.member(0, 1), 55);
    }

    private static void lateLoans() {
        KeyBox box = group(4, "weeks 6; late 13; flat 0; turn 52;");
        meet(box, 1, 15, did(BUY, 3, 5), did(ASK, 3, 20));
        meet(box, 6, 15);
        meet(box, 7, 7);
        meet(box, 8, 15, did(PAY, 3, 20));
        meet(box, 9, 15);
        box.play(0);
        int[] inBox = {30, 30, 43, 76, 76};
        for (int i = 0; i < inBox.length; i++) {
            CHECK.due("BOX with late at " + i, box.meeting(i, 2), inBox[i]);
        }
        CHECK.due("social and late of 3", box.member(3, 4), 4 + 26);
        CHECK.due("social of 0", box.member(0, 4), 5);
    }

    private static void payingBack() {
        KeyBox box = group(3, "flat 0;");
        meet(box, 0, 7, did(BUY, 0, 5), did(ASK, 0, 40));
        meet(box, 1, 7, did(PAY, 0, 15), did(PAY, 1, 15));
        meet(box, 2, 7, did(PAY, 0, 100), did(PAY, 0, 5));
        box.play(0);
        CHECK.due("owed 1", box.meeting(1, 4), 25);
        CHECK.due("BOX 1", box.meeting(1, 2), 25);
        CHECK.due("owed 2", box.meeting(2, 4), 0);
        CHECK.due("BOX 2", box.meeting(2, 2), 50);
        CHECK.dueRow("member 0", Check.member(box, 0), 5, 0, 40, 40, 3, 0, 0, 0, 0, 50, 50, 0, 5);
        CHECK.due("who owes nothing pays nothing", box.member(1, 3), 0);
    }

    private static void deathsPaidByTheFund() {
        KeyBox box = group(4, "death 5; social 2; turn 52;");
        meet(box, 0, 15, did(BUY, 0, 5), did(BUY, 3, 5), did(DIED, 3, 0), did(DIED, 2, 0), did(DIED, 3, 0));
        meet(box, 1, 3);
        box.play(0);
        CHECK.due("FUND 0", box.meeting(0, 3), 0);
        CHECK.due("BOX 0", box.meeting(0, 2), 50);
        CHECK.due("stamps 0", box.meeting(0, 5), 5);
        CHECK.dueRow("meeting 1", Check.meeting(box, 1), 1, 1, 50, 4, 0, 5, 0, 0, 1, -1);
        CHECK.due("paid by the FUND", box.sum(10), 8);
        CHECK.dueRow("member 3", Check.member(box, 3), 0, 0, 0, 0, 2, 0, 0, 1, 50, 0, 0, 0, 5);
        CHECK.dueRow("member 2", Check.member(box, 2), 0, 0, 0, 0, 2, 0, 0, 1, 0, 0, 0, 0, 0);
    }

    private static void leavingWithAnEmptyBox() {
        KeyBox box = group(4, "flat 0; turn 52;");
        meet(box, 0, 15, did(BUY, 0, 5), did(BUY, 3, 5), did(ASK, 0, 90));
        meet(box, 1, 15, did(LEFT, 3, 0));
        box.play(0);
        CHECK.due("it got what the BOX had", box.member(3, 8), 10);
        CHECK.dueRow("sums", Check.sums(box), 2, 0, 0, 8, 90, 90, 0, 0, 0, 0, 0, 0);
        CHECK.due("who owes just its SHARE is in no DEFAULT", box.member(0, 11), 0);
        CHECK.due("SHARE", box.member(0, 9), 90);
        CHECK.due("gets", box.member(0, 10), 0);
    }

    private static void leavingWithALoan() {
        KeyBox box = group(4, "flat 50; weeks 4; turn 52;");
        meet(box, 0, 15, did(BUY, 0, 5), did(BUY, 3, 2), did(ASK, 3, 60));
        meet(box, 1, 15, did(LEFT, 3, 0));
        box.play(0);
        // Its WORTH is 100 * 2 / 7, cut to 28; it owes 90
        CHECK.dueRow("member 3", Check.member(box, 3), 0, 0, 60, 0, 2, 0, 0, 1, 0, 0, 0, 0, 2);
        CHECK.due("lost", box.sum(7), 62);
        CHECK.due("BOX", box.sum(2), 10);
        CHECK.due("owed", box.sum(4), 0);

        KeyBox worthy = group(4, "flat 50; weeks 4; turn 52;");
        meet(worthy, 0, 15, did(BUY, 0, 5), did(BUY, 3, 5), did(ASK, 3, 20));
        meet(worthy, 1, 15, did(LEFT, 3, 0));
        worthy.play(0);
        CHECK.dueRow("member 3", Check.member(worthy, 3), 0, 0, 20, 0, 2, 0, 0, 1, 25, 0, 0, 0, 5);
        CHECK.due("lost", worthy.sum(7), 0);
        CHECK.due("BOX", worthy.sum(2), 55);
    }

    private static void goneOnesDoNothing() {
        KeyBox box = group(4, "turn 52; late 5; weeks 1;");
        meet(box, 0, 15, did(BUY, 0, 1), did(BUY, 3, 5), did(ASK, 3, 30));
        meet(box, 1, 15, did(LEFT, 3, 0), did(BUY, 3, 1), did(FINE, 3, 1), did(PAY, 3, 1), did(ASK, 3, 1),
                did(DIED, 3, 0));
        meet(box, 2, 15, did(FINE, 3, 9));
        box.play(0);
        // In week 1 it paid late 5; BOX 30 + 5, owed 33, WORTH 68 * 5 / 6 = 56, less 33
        CHECK.dueRow("member 3", Check.member(box, 3), 0, 0, 30, 0, 2 + 5, 0, 0, 1, 23, 0, 0, 0, 5);
        CHECK.due("paid by the FUND", box.sum(10), 0);
        CHECK.due("BOX", box.sum(2), 12);
    }

    private static void robberies() {
        KeyBox box = group(6, "turn 1;");
        meet(box, 0, 63, did(BUY, 3, 5), did(ROBBED, 0, 20));
        meet(box, 1, 0b111000, did(ROBBED, 0, 7));
        meet(box, 2, 0, did(ROBBED, 0, 1000000), did(ROBBED, 0, 1));
        CHECK.due("play(0)", box.play(0), 2);
        CHECK.due("BOX 0", box.meeting(0, 2), 30);
        CHECK.due("BOX 1, 0 being elsewhere", box.meeting(1, 2), 23);
        CHECK.due("BOX 2, SHUT", box.meeting(2, 2), 0);
        CHECK.due("robbed", box.sum(9), 50);
        CHECK.due("TOTAL", box.sum(5), 0);
    }

    private static void partingWithoutStamps() {
        KeyBox box = group(3, "");
        meet(box, 0, 7, did(FINE, 1, 5));
        box.play(0);
        CHECK.dueRow("sums", Check.sums(box), 1, 0, 5, 3, 0, 5, 5, 0, 0, 0, 0, 0);
        CHECK.dueRow("member 1", Check.member(box, 1), 0, 0, 0, 0, 6, 0, 0, 0, 0, 0, 0, 0, 0);
    }

    private static void partingWithDefaults() {
        String text = "flat 50; weeks 8; most 9; loan 900;";
        KeyBox chain = group(3, text);
        meet(chain, 0, 7, did(BUY, 0, 1), did(BUY, 1, 4), did(BUY, 2, 5), did(ASK, 0, 40), did(ASK, 1, 20));
        chain.play(0);
        // 160 parted 16, 64, 80; 0 owes 80: out; 80 parted 35, 44; now 1 owes too much, 40: out
        CHECK.dueRow("member 0", Check.member(chain, 0), 1, 80, 40, 0, 1, 0, 0, 0, 0, 0, 0, 1, 1);
        CHECK.dueRow("member 1", Check.member(chain, 1), 4, 40, 20, 0, 1, 0, 0, 0, 0, 0, 0, 1, 4);
        CHECK.dueRow("member 2", Check.member(chain, 2), 5, 0, 0, 0, 1, 0, 0, 0, 0, 40, 40, 0, 5);
        CHECK.dueRow("sums", Check.sums(chain), 1, 0, 40, 3, 120, 40, 0, 0, 64 + 5, 0, 0, 60);

        KeyBox lowest = group(3, text);
        meet(lowest, 0, 7, did(BUY, 0, 1), did(BUY, 1, 4), did(BUY, 2, 5), did(ASK, 0, 40), did(ASK, 1, 50));
        lowest.play(0);
        // Both owe too much at first; the lowest goes first, 80 over 19, then 100 over 48
        CHECK.due("lost by DEFAULTS", lowest.sum(8), 61 + 52);
        CHECK.due("TOTAL", lowest.sum(5), 10);
        CHECK.due("gets", lowest.member(2, 10), 10);
    }

    private static void partingWithRest() {
        KeyBox box = group(3, "flat 0;");
        meet(box, 0, 7, did(BUY, 0, 1), did(BUY, 1, 1), did(BUY, 2, 1), did(FINE, 0, 2), did(ASK, 2, 7));
        box.play(0);
        CHECK.due("SHARE of 0", box.member(0, 9), 10);
        CHECK.due("gets 0", box.member(0, 10), 10);
        CHECK.due("SHARE of 2", box.member(2, 9), 10);
        CHECK.due("gets 2", box.member(2, 10), 3);
        CHECK.due("TOTAL", box.sum(5), 32);
        CHECK.due("REST", box.sum(6), 2);
    }

    private static void moneyBeyondAnInt() {
        KeyBox box = group(3, "falling 50; stamp 1000; most 9; loan 900;");
        long owed = 27000;
        for (int week = 0; week < 52; week++) {
            meet(box, week, 7, did(BUY, 0, 9), did(BUY, 1, 9), did(BUY, 2, 9));
            if (week == 0) {
                box.enter(ASK, 0, 27000);
            }
            owed += week > 0 && week % 4 == 0 ? owed / 2 : 0;
        }
        CHECK.due("play(0)", box.play(0), 52);
        long inBox = 51 * 27000;
        CHECK.due("BOX", box.sum(2), inBox);
        CHECK.due("owed", box.sum(4), owed);
        // A third of all, though that times its stamps is beyond an int
        CHECK.due("lost", box.sum(8), owed - (inBox + owed) / 3);
        CHECK.due("gets", box.member(1, 10), inBox / 2);

        KeyBox saver = group(3, "stamp 1000; most 9; loan 900; flat 0;");
        for (int week = 0; week < 52; week++) {
            meet(saver, week, 7, did(BUY, 0, 9), did(BUY, 0, 9));
        }
        saver.enter(ASK, 0, 100000);
        saver.play(0);
        CHECK.due("100000 of 4212000 that it may ask for", saver.member(0, 2), 100000);
    }

    private static void answersEndWithAChange() {
        KeyBox box = group(3, "");
        meet(box, 0, 7);
        dueUnplayed(box);
        box.play(3);
        duePlayed(box);
        box.feed(0, 0, 0, 0, 0);
        box.end(0);
        box.members(4);
        box.meet(0, 7);
        box.enter(1, 0, 0);
        Check.tell(box, 3, "no");
        box.rules(4);
        box.parts(0, 1);
        box.gains(0, 1, 2);
        box.play(4);
        duePlayed(box);
        box.enter(BUY, 0, 1);
        dueUnplayed(box);
        box.play(3);
        duePlayed(box);
        box.back();
        dueUnplayed(box);
        box.play(3);
        box.meet(1, 7);
        dueUnplayed(box);
        box.play(3);
        Check.tell(box, 0, "most 4;");
        dueUnplayed(box);
        box.play(3);
        Check.tell(box, 1, "");
        dueUnplayed(box);
        box.play(3);
        duePlayed(box);

        KeyBox empty = new KeyBox();
        empty.play(3);
        CHECK.due("an empty LOG is played", empty.count(4), 3);
        empty.meet(0, 7);
        dueUnplayed(empty);
        empty.play(3);
        empty.back();
        dueUnplayed(empty);
    }

    private static void duePlayed(KeyBox box) {
        CHECK.due("member(0, 0), played", box.member(0, 0) == -9 ? 1 : 0, 0);
        CHECK.due("meeting(0, 1), played", box.meeting(0, 1), 1);
        CHECK.due("sum(1), played", box.sum(1), 0);
        CHECK.due("count(4), played", box.count(4), 3);
    }

    private static void dueUnplayed(KeyBox box) {
        CHECK.due("member(0, 0), not played", box.member(0, 0), -9);
        CHECK.due("meeting(0, 1), not played", box.meeting(0, 1), -9);
        CHECK.due("sum(1), not played", box.sum(1), -9);
        CHECK.due("count(4), not played", box.count(4), KeyBox.NONE);
    }

    private static void noneSuch() {
        KeyBox box = group(4, "");
        meet(box, 0, 15);
        box.play(0);
        int[] far = {-1, Integer.MIN_VALUE, Integer.MAX_VALUE};
        for (int n : far) {
            CHECK.due("member(" + n + ", 0)", box.member(n, 0), -9);
            CHECK.due("member(0, " + n + ")", box.member(0, n), -9);
            CHECK.due("meeting(" + n + ", 0)", box.meeting(n, 0), -9);
            CHECK.due("meeting(0, " + n + ")", box.meeting(0, n), -9);
            CHECK.due("sum(" + n + ")", box.sum(n), -9);
        }
        CHECK.due("member(3, 12)", box.member(3, 12), 0);
        CHECK.due("member(4, 0)", box.member(4, 0), -9);
        CHECK.due("member(0, 13)", box.member(0, 13), -9);
        CHECK.due("meeting(0, 9)", box.meeting(0, 9), 2);
        CHECK.due("meeting(1, 0)", box.meeting(1, 0), -9);
        CHECK.due("meeting(0, 10)", box.meeting(0, 10), -9);
        CHECK.due("sum(11)", box.sum(11), 0);
        CHECK.due("sum(12)", box.sum(12), -9);
    }
}
