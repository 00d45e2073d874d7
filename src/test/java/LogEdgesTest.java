/** The edges that the document names of the tape and the log: Terms I, promises 1 to 8, sentence by sentence. */
public final class LogEdgesTest {
    private static final Check CHECK = new Check();
    private static final int RANGE = KeyBox.RANGE;
    private static final int MIN = Integer.MIN_VALUE;
    private static final int MAX = Integer.MAX_VALUE;

    public static void main(String[] args) {
        terms();
        newObject();
        tape();
        log();
        CHECK.finish();
    }

    private static void terms() {
        CHECK.sentence("MEMBERS 0 .. 23, as many as were told (3 .. 24; 3 at first)", LogEdgesTest::membersByNumber);
        CHECK.sentence("THE LOG: at most 300 ENTRIES", LogEdgesTest::atMost300);
        CHECK.sentence("numbered from 0", LogEdgesTest::numberedFrom0);
        CHECK.sentence("A MEETING: a week 0 .. 51", LogEdgesTest::weeks);
        CHECK.sentence("(above that of the one before)", LogEdgesTest::weekAbove);
        CHECK.sentence("and who is there, as bits", LogEdgesTest::bits);
        CHECK.sentence("Behind it, of that week", LogEdgesTest::ofThatWeek);
        CHECK.sentence("BUY (a MEMBER, 1 .. 9 stamps)", () -> bounds(1, 1, 9));
        CHECK.sentence("ASK (a loan of 1 .. 100000 pence)", () -> bounds(2, 1, 100000));
        CHECK.sentence("PAY (1 .. 100000 pence)", () -> bounds(3, 1, 100000));
        CHECK.sentence("FINE (1 .. 1000 pence)", () -> bounds(4, 1, 1000));
        CHECK.sentence("DIED, LEFT (a MEMBER)", () -> {
            bounds(5, 0, 0);
            bounds(6, 0, 0);
        });
        CHECK.sentence("ROBBED (1 .. 1000000 pence)", () -> bounds(7, 1, 1000000));
    }

    private static void newObject() {
        CHECK.sentence("Three MEMBERS", () -> {
            CHECK.due("count(0)", new KeyBox().count(0), 3);
            CHECK.due("bits of three", new KeyBox().meet(0, 7), 0);
            CHECK.due("bits of four", new KeyBox().meet(0, 8), RANGE);
        });
        CHECK.sentence("an empty LOG", () -> {
            KeyBox box = new KeyBox();
            CHECK.due("count(1)", box.count(1), 0);
            CHECK.due("count(2)", box.count(2), 0);
            CHECK.due("entry(0, 0)", box.entry(0, 0), -9);
            CHECK.due("back()", box.back(), KeyBox.STATE);
            CHECK.due("its first ENTRY", box.meet(0, 0), 0);
        });
    }

    private static void tape() {
        CHECK.sentence("Twenty bytes come behind THE TAPE", LogEdgesTest::bytesComeBehind);
        CHECK.sentence("the highest of each int first", LogEdgesTest::highestFirst);
        CHECK.sentence("how many it has; FULL when there would be more than 500", LogEdgesTest::tapeFull);
        CHECK.sentence("THE TAPE has its first n bytes alone: n", LogEdgesTest::firstBytesAlone);
        CHECK.sentence("NONE when it has not so many, or n is below 0", LogEdgesTest::notSoMany);
    }

    private static void log() {
        CHECK.sentence("How many MEMBERS there are (3 .. 24): 1; RANGE", LogEdgesTest::membersToldInBounds);
        CHECK.sentence("STATE: THE LOG has ENTRIES", LogEdgesTest::membersWithEntries);
        CHECK.sentence("A MEETING: its ENTRY", LogEdgesTest::meetTellsItsEntry);
        CHECK.sentence("RANGE: no such week, bits", LogEdgesTest::meetRefused);
        CHECK.sentence("RANGE: no such week, bits; FULL", LogEdgesTest::meetFull);
        CHECK.sentence("An ENTRY of the latest MEETING's week", LogEdgesTest::latestMeetingsWeek);
        CHECK.sentence("(n 0 for 5, 6; m 0 for 7): its number", LogEdgesTest::zeroes);
        CHECK.sentence("RANGE: no such kind", LogEdgesTest::kinds);
        CHECK.sentence("RANGE: no such kind, MEMBER", LogEdgesTest::membersOfEntries);
        CHECK.sentence("RANGE: no such kind, MEMBER, n", LogEdgesTest::refusedEntriesChangeNothing);
        CHECK.sentence("STATE: there is no MEETING", LogEdgesTest::noMeeting);
        CHECK.sentence("STATE: there is no MEETING; FULL", LogEdgesTest::enterFull);
        CHECK.sentence("what 0: kind (0 a MEETING)", () -> entryTells(0, 0, 5));
        CHECK.sentence("1: MEMBER (of a MEETING the week)", () -> entryTells(1, 51, 2));
        CHECK.sentence("2: n (of a MEETING who is there)", () -> entryTells(2, 6, 0));
        CHECK.sentence("-9 when there is none such", LogEdgesTest::noSuchEntry);
        CHECK.sentence("The latest ENTRY is taken off THE LOG: how many are left", LogEdgesTest::latestTakenOff);
        CHECK.sentence("STATE: none", LogEdgesTest::backOfNone);
    }

    private static void membersByNumber() {
        for (int members : new int[] {3, 4, 23, 24}) {
            KeyBox box = new KeyBox();
            CHECK.due("members(" + members + ")", box.members(members), 1);
            box.meet(0, 0);
            CHECK.due("MEMBER 0 of " + members, box.enter(1, 0, 1), 1);
            CHECK.due("the last of " + members, box.enter(1, members - 1, 1), 2);
            CHECK.due("one behind the last of " + members, box.enter(1, members, 1), RANGE);
            CHECK.due("MEMBER -1", box.enter(1, -1, 1), RANGE);
        }
    }

    private static void atMost300() {
        KeyBox box = fullLog();
        CHECK.due("ENTRIES", box.count(1), 300);
        CHECK.due("a 301st", box.enter(4, 0, 1), KeyBox.FULL);
        CHECK.due("ENTRIES still", box.count(1), 300);
        CHECK.due("a MEETING besides", box.meet(51, 7), KeyBox.FULL);
        CHECK.due("MEETINGS still", box.count(2), 1);
    }

    /** A MEETING in week 0 and 299 ENTRIES of it. */
    private static KeyBox fullLog() {
        KeyBox box = new KeyBox();
        box.meet(0, 7);
        for (int i = 1; i < 300; i++) {
            CHECK.due("ENTRY " + i, box.enter(4, i % 3, i), i);
        }
        return box;
    }

    private static void numberedFrom0() {
        KeyBox box = new KeyBox();
        CHECK.due("the first", box.meet(4, 5), 0);
        CHECK.due("the next", box.enter(1, 2, 9), 1);
        CHECK.due("the next MEETING", box.meet(5, 6), 2);
        CHECK.due("week of ENTRY 0", box.entry(0, 1), 4);
        CHECK.due("n of ENTRY 1", box.entry(1, 2), 9);
        CHECK.due("week of ENTRY 2", box.entry(2, 1), 5);
    }

    private static void weeks() {
        CHECK.due("week -1", new KeyBox().meet(-1, 7), RANGE);
        CHECK.due("week 0", new KeyBox().meet(0, 7), 0);
        CHECK.due("week 51", new KeyBox().meet(51, 7), 0);
        CHECK.due("week 52", new KeyBox().meet(52, 7), RANGE);
        CHECK.due("the least week", new KeyBox().meet(MIN, 7), RANGE);
        CHECK.due("the greatest week", new KeyBox().meet(MAX, 7), RANGE);
    }

    private static void weekAbove() {
        KeyBox box = new KeyBox();
        box.meet(20, 7);
        box.enter(1, 0, 1);
        CHECK.due("the same week", box.meet(20, 7), RANGE);
        CHECK.due("the week below", box.meet(19, 7), RANGE);
        CHECK.due("week 0", box.meet(0, 7), RANGE);
        CHECK.due("the week above", box.meet(21, 7), 2);
        box.back();
        box.back();
        CHECK.due("its ENTRY taken back, the same week", box.meet(20, 7), RANGE);
        box.back();
        CHECK.due("itself taken back, the same week", box.meet(20, 7), 0);

        KeyBox every = new KeyBox();
        for (int week = 0; week < 52; week++) {
            CHECK.due("week " + week, every.meet(week, 0), week);
        }
        CHECK.due("behind week 51, week 51", every.meet(51, 0), RANGE);
        CHECK.due("behind week 51, week 52", every.meet(52, 0), RANGE);
        CHECK.due("behind week 51, week 0", every.meet(0, 0), RANGE);
    }

    private static void bits() {
        for (int members = 3; members <= 24; members++) {
            KeyBox box = new KeyBox();
            box.members(members);
            int beyond = 1 << members;
            CHECK.due("nobody of " + members, box.meet(0, 0), 0);
            CHECK.due("all of " + members, box.meet(1, beyond - 1), 1);
            CHECK.due("one beyond " + members, box.meet(2, beyond), RANGE);
            CHECK.due("one beyond " + members + ", and another", box.meet(2, beyond | 1), RANGE);
            CHECK.due("who is there", box.entry(1, 2), beyond - 1);
        }
        for (int there : new int[] {-1, MIN, MIN | 7, MAX, 1 << 30, 1 << 24}) {
            CHECK.due("bits " + there, new KeyBox().meet(0, there), RANGE);
        }
    }

    private static void ofThatWeek() {
        KeyBox box = Told.group(3, "").meet(3).meet(9).buy(0, 2).play();
        CHECK.due("stamps at the MEETING before", box.meeting(0, 5), 0);
        CHECK.due("stamps at its own MEETING", box.meeting(1, 5), 2);
    }

    private static void bounds(int kind, int least, int most) {
        KeyBox box = new KeyBox();
        box.meet(0, 7);
        CHECK.due("least n, kind " + kind, box.enter(kind, 0, least), 1);
        CHECK.due("greatest n, kind " + kind, box.enter(kind, 0, most), 2);
        CHECK.due("n kept, kind " + kind, box.entry(2, 2), most);
        for (int n : new int[] {least - 1, most + 1, -most - 1, MIN, MAX}) {
            CHECK.due("n " + n + ", kind " + kind, box.enter(kind, 0, n), RANGE);
        }
        CHECK.due("kind " + kind + ", ENTRIES", box.count(1), 3);
    }

    private static void bytesComeBehind() {
        KeyBox box = new KeyBox();
        CHECK.due("the first twenty", box.feed(0x6d6f7374, 0x20372020, 0x20202020, 0x20202020, 0x20202020), 20);
        CHECK.due("twenty more", box.feed(0x3b6c6f61, 0x6e203831, 0x3b202020, 0x20202020, 0x20202020), 40);
        CHECK.due("lines", box.rules(0), 2);
        CHECK.due("most, of the first", box.rule(0, 1), 7);
        CHECK.due("loan, of those behind", box.rule(0, 2), 81);
    }

    private static void highestFirst() {
        // One byte is no blank; its place is where it came to stand.
        for (int at = 0; at < 20; at++) {
            int[] ints = {0x20202020, 0x20202020, 0x20202020, 0x20202020, 0x20202020};
            int shift = 24 - at % 4 * 8;
            ints[at / 4] = 0x20202020 & ~(255 << shift) | 0xff << shift;
            KeyBox box = new KeyBox();
            box.feed(ints[0], ints[1], ints[2], ints[3], ints[4]);
            CHECK.due("a byte of 255 at " + at, box.rules(0), KeyBox.NONE);
            CHECK.due("its place", box.fault(1), at);
        }
    }

    private static void tapeFull() {
        KeyBox box = new KeyBox();
        for (int n = 20; n <= 500; n += 20) {
            CHECK.due("feed", box.feed(-1, -1, -1, -1, -1), n);
        }
        CHECK.due("feed to 520", box.feed(0, 0, 0, 0, 0), KeyBox.FULL);
        CHECK.due("bytes still", box.count(3), 500);
        box.end(481);
        CHECK.due("feed to 501", box.feed(0, 0, 0, 0, 0), KeyBox.FULL);
        CHECK.due("bytes still", box.count(3), 481);
        box.end(480);
        CHECK.due("feed to 500", box.feed(0, 0, 0, 0, 0), 500);
        box.rules(0);
        CHECK.due("feed behind rules()", box.feed(0, 0, 0, 0, 0), 20);
    }

    private static void firstBytesAlone() {
        KeyBox box = new KeyBox();
        CHECK.due("end(0) of an empty one", box.end(0), 0);
        Check.write(box, "most 3;loan 4;turn 5;");
        CHECK.due("end(21), all", box.end(21), 21);
        CHECK.due("end(14)", box.end(14), 14);
        CHECK.due("bytes", box.count(3), 14);
        CHECK.due("lines", box.rules(0), 2);
        CHECK.due("turn is cut off", box.rule(0, 10), 4);
        Check.write(box, "most 3;");
        CHECK.due("end(0)", box.end(0), 0);
        CHECK.due("none is left", box.rules(0), 0);
    }

    private static void notSoMany() {
        KeyBox box = new KeyBox();
        CHECK.due("end(1) of an empty one", box.end(1), KeyBox.NONE);
        Check.write(box, "most 3;");
        for (int n : new int[] {8, 20, 500, 501, MAX, -1, MIN}) {
            CHECK.due("end(" + n + ")", box.end(n), KeyBox.NONE);
            CHECK.due("bytes still", box.count(3), 7);
        }
        CHECK.due("lines", box.rules(0), 1);
    }

    private static void membersToldInBounds() {
        KeyBox box = new KeyBox();
        CHECK.due("members(24)", box.members(24), 1);
        for (int n : new int[] {2, 25, 0, -1, -3, MIN, MAX}) {
            CHECK.due("members(" + n + ")", box.members(n), RANGE);
            CHECK.due("MEMBERS still", box.count(0), 24);
        }
        CHECK.due("members(3)", box.members(3), 1);
        CHECK.due("MEMBERS", box.count(0), 3);
    }

    private static void membersWithEntries() {
        KeyBox box = new KeyBox();
        box.meet(0, 7);
        CHECK.due("members(4)", box.members(4), KeyBox.STATE);
        CHECK.due("members(3), as many as there are", box.members(3), KeyBox.STATE);
        CHECK.due("members(2)", box.members(2), RANGE);
        CHECK.due("members(25)", box.members(25), RANGE);
        CHECK.due("MEMBERS still", box.count(0), 3);
        box.back();
        CHECK.due("members(4), all taken back", box.members(4), 1);
    }

    private static void meetTellsItsEntry() {
        KeyBox box = new KeyBox();
        CHECK.due("the first", box.meet(7, 3), 0);
        box.enter(1, 0, 1);
        box.enter(1, 1, 1);
        CHECK.due("behind two ENTRIES", box.meet(8, 3), 3);
        CHECK.due("right behind a MEETING", box.meet(9, 3), 4);
    }

    private static void meetRefused() {
        KeyBox box = new KeyBox();
        box.meet(5, 7);
        int[][] wrong = {{-1, 7}, {52, 7}, {5, 7}, {4, 7}, {6, 8}, {6, -1}, {MIN, MIN}, {MAX, MAX}};
        for (int[] call : wrong) {
            CHECK.due("meet(" + call[0] + ", " + call[1] + ")", box.meet(call[0], call[1]), RANGE);
            CHECK.due("ENTRIES still", box.count(1), 1);
            CHECK.due("MEETINGS still", box.count(2), 1);
        }
        CHECK.due("the week behind is free still", box.meet(6, 7), 1);
    }

    private static void meetFull() {
        KeyBox box = fullLog();
        CHECK.due("a MEETING", box.meet(1, 7), KeyBox.FULL);
        CHECK.due("a wrong week", box.meet(0, 7), RANGE);
        CHECK.due("wrong bits", box.meet(1, 8), RANGE);
        box.back();
        CHECK.due("the 300th ENTRY", box.meet(1, 7), 299);
        CHECK.due("a 301st", box.meet(2, 7), KeyBox.FULL);
        CHECK.due("MEETINGS", box.count(2), 2);
    }

    private static void latestMeetingsWeek() {
        Told told = Told.group(3, "social 0;").meet(1).meet(2).fine(0, 5);
        told.box().back();
        told.box().back();
        KeyBox box = told.fine(0, 7).play();
        CHECK.due("MEETINGS", box.count(2), 1);
        CHECK.due("BOX of the MEETING before, the latest again", box.meeting(0, 2), 7);
    }

    private static void zeroes() {
        KeyBox box = new KeyBox();
        box.meet(0, 7);
        CHECK.due("DIED, n 1", box.enter(5, 2, 1), RANGE);
        CHECK.due("DIED, n -1", box.enter(5, 2, -1), RANGE);
        CHECK.due("DIED, n 0", box.enter(5, 2, 0), 1);
        CHECK.due("LEFT, n 1", box.enter(6, 2, 1), RANGE);
        CHECK.due("LEFT, n -1", box.enter(6, 2, -1), RANGE);
        CHECK.due("LEFT, n 0", box.enter(6, 2, 0), 2);
        CHECK.due("ROBBED, m 1", box.enter(7, 1, 5), RANGE);
        CHECK.due("ROBBED, m -1", box.enter(7, -1, 5), RANGE);
        CHECK.due("ROBBED, m 0", box.enter(7, 0, 5), 3);
    }

    private static void kinds() {
        for (int kind : new int[] {0, 8, -1, MIN, MAX}) {
            for (int n = 0; n <= 1; n++) {
                KeyBox box = new KeyBox();
                box.meet(0, 7);
                CHECK.due("kind " + kind + ", n " + n, box.enter(kind, 0, n), RANGE);
                CHECK.due("ENTRIES still", box.count(1), 1);
            }
        }
        KeyBox box = new KeyBox();
        box.meet(0, 7);
        CHECK.due("kind 1", box.enter(1, 0, 1), 1);
        CHECK.due("kind 7", box.enter(7, 0, 1), 2);
    }

    private static void membersOfEntries() {
        KeyBox box = new KeyBox();
        box.members(5);
        box.meet(0, 31);
        for (int kind = 1; kind <= 6; kind++) {
            int n = kind < 5 ? 1 : 0;
            for (int m : new int[] {-1, 5, 24, MIN, MAX}) {
                CHECK.due("kind " + kind + ", MEMBER " + m, box.enter(kind, m, n), RANGE);
            }
            CHECK.due("kind " + kind + ", MEMBER 4", box.enter(kind, 4, n), kind);
        }
    }

    private static void refusedEntriesChangeNothing() {
        KeyBox box = new KeyBox();
        box.meet(0, 7);
        box.enter(4, 1, 77);
        int[][] wrong = {{0, 0, 1}, {8, 0, 1}, {4, 3, 1}, {4, -1, 1}, {4, 0, 0}, {4, 0, 1001}, {5, 0, 1}, {7, 1, 1}};
        for (int[] call : wrong) {
            CHECK.due("enter", box.enter(call[0], call[1], call[2]), RANGE);
            CHECK.due("ENTRIES still", box.count(1), 2);
            CHECK.due("the latest one still", box.entry(1, 2), 77);
            CHECK.due("none behind it", box.entry(2, 0), -9);
        }
    }

    private static void noMeeting() {
        KeyBox box = new KeyBox();
        for (int kind = 1; kind <= 7; kind++) {
            int n = kind == 5 || kind == 6 ? 0 : 1;
            CHECK.due("kind " + kind, box.enter(kind, 0, n), KeyBox.STATE);
            CHECK.due("a wrong n, kind " + kind, box.enter(kind, 0, -1), RANGE);
        }
        CHECK.due("ENTRIES", box.count(1), 0);
        box.meet(0, 7);
        box.back();
        CHECK.due("the MEETING taken back", box.enter(1, 0, 1), KeyBox.STATE);
    }

    private static void enterFull() {
        KeyBox box = fullLog();
        for (int kind = 1; kind <= 7; kind++) {
            int n = kind == 5 || kind == 6 ? 0 : 1;
            CHECK.due("kind " + kind, box.enter(kind, 0, n), KeyBox.FULL);
            CHECK.due("a wrong n, kind " + kind, box.enter(kind, 0, -1), RANGE);
        }
        CHECK.due("the latest one still", box.entry(299, 2), 299);
        box.back();
        CHECK.due("there is room again", box.enter(1, 0, 9), 299);
        CHECK.due("and none again", box.enter(1, 0, 9), KeyBox.FULL);
    }

    private static void entryTells(int what, int ofMeeting, int ofDied) {
        KeyBox box = new KeyBox();
        box.meet(51, 6);
        box.enter(5, 2, 0);
        CHECK.due("of a MEETING", box.entry(0, what), ofMeeting);
        CHECK.due("of DIED", box.entry(1, what), ofDied);
    }

    private static void noSuchEntry() {
        KeyBox box = new KeyBox();
        CHECK.due("of an empty LOG", box.entry(0, 0), -9);
        box.meet(0, 7);
        box.enter(1, 1, 1);
        box.back();
        for (int what = 0; what < 3; what++) {
            CHECK.due("one that was taken back", box.entry(1, what), -9);
        }
        for (int none : new int[] {-1, 3, 299, 300, MIN, MAX}) {
            CHECK.due("ENTRY " + none, box.entry(none, 0), -9);
            CHECK.due("what " + none, box.entry(0, none), -9);
        }
        CHECK.due("ENTRY 300 of a full LOG", fullLog().entry(300, 0), -9);
    }

    private static void latestTakenOff() {
        KeyBox box = new KeyBox();
        box.meet(3, 7);
        box.enter(4, 0, 8);
        box.meet(4, 7);
        CHECK.due("a MEETING", box.back(), 2);
        CHECK.due("MEETINGS", box.count(2), 1);
        CHECK.due("ENTRIES", box.count(1), 2);
        CHECK.due("the one before stays", box.entry(1, 2), 8);
        CHECK.due("an ENTRY of it", box.back(), 1);
        CHECK.due("MEETINGS still", box.count(2), 1);
        CHECK.due("the last", box.back(), 0);
        CHECK.due("MEETINGS", box.count(2), 0);
    }

    private static void backOfNone() {
        KeyBox box = new KeyBox();
        CHECK.due("of a new one", box.back(), KeyBox.STATE);
        box.meet(0, 7);
        box.back();
        CHECK.due("all taken back", box.back(), KeyBox.STATE);
        CHECK.due("ENTRIES", box.count(1), 0);
        CHECK.due("MEETINGS", box.count(2), 0);
        CHECK.due("it goes on from 0", box.meet(0, 7), 0);
    }
}
