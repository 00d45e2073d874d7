import java.util.Arrays;

/** A group's year of weekly meetings told as a log, and played by any of four sets of rules. */
public final class KeyBox {
    public static final int NONE = -1;
    public static final int RANGE = -2;
    public static final int FULL = -3;
    public static final int STATE = -4;

    private static final int NO_ANSWER = -9;
    // A gain may well be RANGE's own -2, so that gains() refuses with a number beyond all gains.
    private static final int NO_GAIN = -2000000000;
    private static final int RULE_SETS = 4;

    private final Tape tape;
    private final Log log;
    private final RuleSet[] ruleSets;
    private final RuleReader reader;
    private final Year latest;
    // Two years besides, so that holding rules against one another leaves the latest play as it is.
    private final Year oneYear;
    private final Year otherYear;
    private int playedLatest;

    public KeyBox() {
        tape = new Tape();
        log = new Log();
        ruleSets = new RuleSet[RULE_SETS];
        for (int r = 0; r < RULE_SETS; r++) {
            ruleSets[r] = new RuleSet();
        }
        reader = new RuleReader(tape);
        latest = new Year(log, ruleSets[0]);
        oneYear = new Year(log, ruleSets[0]);
        otherYear = new Year(log, ruleSets[0]);
        playedLatest = NONE;
    }

    public int feed(int a, int b, int c, int d, int e) {
        if (!tape.hasRoomFor(20)) {
            return FULL;
        }
        tape.append(a);
        tape.append(b);
        tape.append(c);
        tape.append(d);
        tape.append(e);
        return tape.length;
    }

    public int end(int n) {
        if (n < 0 || n > tape.length) {
            return NONE;
        }
        tape.length = n;
        return n;
    }

    // ---- the log

    public int members(int n) {
        return log.setMembers(n);
    }

    public int meet(int week, int there) {
        return logChanged(log.addMeeting(week, there));
    }

    public int enter(int kind, int m, int n) {
        return logChanged(log.addEntry(kind, m, n));
    }

    public int entry(int i, int what) {
        return log.read(i, what);
    }

    public int back() {
        return logChanged(log.takeBack());
    }

    // ---- rules

    public int rules(int r) {
        if (!isRuleSet(r)) {
            return RANGE;
        }
        int lines = reader.read(ruleSets[r]);
        tape.length = 0;
        if (lines >= 0) {
            playedLatest = NONE;
        }
        return lines;
    }

    public int fault(int what) {
        if (what == 0) {
            return reader.faultKind;
        }
        return what == 1 ? reader.faultPlace : NONE;
    }

    public int rule(int r, int what) {
        if (!isRuleSet(r) || what < 0 || what >= RuleSet.TOPICS) {
            return NO_ANSWER;
        }
        return ruleSets[r].of(what);
    }

    // ---- a play

    public int play(int r) {
        if (!isRuleSet(r)) {
            return RANGE;
        }
        latest.playAll(ruleSets[r]);
        playedLatest = r;
        return latest.sums[Year.OPEN_MEETINGS];
    }

    public int member(int m, int what) {
        if (playedLatest == NONE || !log.isMember(m) || what < 0 || what >= Year.MEMBER_FIELDS) {
            return NO_ANSWER;
        }
        return latest.ofMember[what][m];
    }

    public int meeting(int i, int what) {
        if (playedLatest == NONE || !log.isMeeting(i) || what < 0 || what >= Year.MEETING_FIELDS) {
            return NO_ANSWER;
        }
        return latest.ofMeeting[what][i];
    }

    public int sum(int what) {
        if (playedLatest == NONE || what < 0 || what >= Year.SUMS) {
            return NO_ANSWER;
        }
        return latest.sums[what];
    }

    // ---- rules held

    public int parts(int r, int s) {
        if (!isRuleSet(r) || !isRuleSet(s)) {
            return RANGE;
        }
        oneYear.begin(ruleSets[r]);
        otherYear.begin(ruleSets[s]);
        for (int i = 0; i < log.meetingCount; i++) {
            oneYear.playMeeting(i);
            otherYear.playMeeting(i);
            if (oneYear.differsFrom(otherYear)) {
                return i;
            }
        }
        return NONE;
    }

    public int gains(int r, int s, int m) {
        if (!isRuleSet(r) || !isRuleSet(s) || !log.isMember(m)) {
            return NO_GAIN;
        }
        oneYear.playAll(ruleSets[r]);
        otherYear.playAll(ruleSets[s]);
        return oneYear.hasOfTheYear(m) - otherYear.hasOfTheYear(m);
    }

    public int count(int what) {
        switch (what) {
            case 0:
                return log.memberCount;
            case 1:
                return log.size;
            case 2:
                return log.meetingCount;
            case 3:
                return tape.length;
            case 4:
                return playedLatest;
            default:
                return NONE;
        }
    }

    private static boolean isRuleSet(int r) {
        return r >= 0 && r < RULE_SETS;
    }

    private int logChanged(int answer) {
        if (answer >= 0) {
            playedLatest = NONE;
        }
        return answer;
    }

    /** The bytes from which rules are read. */
    private static final class Tape {
        static final int ROOM = 500;

        private final byte[] bytes = new byte[ROOM];
        private int length;

        boolean hasRoomFor(int more) {
            return length + more <= ROOM;
        }

        void append(int four) {
            if (!hasRoomFor(4)) {
                return;
            }
            for (int shift = 24; shift >= 0; shift -= 8) {
                bytes[length] = (byte) (four >> shift);
                length++;
            }
        }

        /** The byte as 0 .. 255, NONE behind the last one. */
        int at(int place) {
            return place >= 0 && place < length ? bytes[place] & 255 : NONE;
        }
    }

    /** Who the members are, by number, and what happened in the year. */
    private static final class Log {
        static final int MEETING = 0;
        static final int BUY = 1;
        static final int ASK = 2;
        static final int PAY = 3;
        static final int FINE = 4;
        static final int DIED = 5;
        static final int LEFT = 6;
        static final int ROBBED = 7;

        static final int LEAST_MEMBERS = 3;
        static final int MOST_MEMBERS = 24;
        static final int WEEKS = 52;
        static final int ROOM = 300;

        private static final int[] LEAST_N = {0, 1, 1, 1, 1, 0, 0, 1};
        private static final int[] MOST_N = {0, 9, 100000, 100000, 1000, 0, 0, 1000000};

        private final int[] kinds = new int[ROOM];
        // Of a meeting, its week and who is there stand in these two.
        private final int[] whos = new int[ROOM];
        private final int[] amounts = new int[ROOM];
        private final int[] starts = new int[WEEKS];
        private int size;
        private int meetingCount;
        private int memberCount = LEAST_MEMBERS;

        boolean isMember(int m) {
            return m >= 0 && m < memberCount;
        }

        boolean isMeeting(int i) {
            return i >= 0 && i < meetingCount;
        }

        int setMembers(int n) {
            if (n < LEAST_MEMBERS || n > MOST_MEMBERS) {
                return RANGE;
            }
            if (size > 0) {
                return STATE;
            }
            memberCount = n;
            return 1;
        }

        int addMeeting(int week, int there) {
            if (week <= latestWeek() || week >= WEEKS || there < 0 || there >= 1 << memberCount) {
                return RANGE;
            }
            if (size >= ROOM || meetingCount >= WEEKS) {
                return FULL;
            }
            starts[meetingCount] = size;
            meetingCount++;
            return add(MEETING, week, there);
        }

        int addEntry(int kind, int m, int n) {
            if (!canBe(kind, m, n)) {
                return RANGE;
            }
            if (meetingCount == 0) {
                return STATE;
            }
            if (size >= ROOM) {
                return FULL;
            }
            return add(kind, m, n);
        }

        int read(int i, int what) {
            if (i < 0 || i >= size) {
                return NO_ANSWER;
            }
            switch (what) {
                case 0:
                    return kinds[i];
                case 1:
                    return whos[i];
                case 2:
                    return amounts[i];
                default:
                    return NO_ANSWER;
            }
        }

        int takeBack() {
            if (size == 0) {
                return STATE;
            }
            size--;
            if (kinds[size] == MEETING) {
                meetingCount--;
            }
            return size;
        }

        /** The entry that is the meeting itself. */
        int startOf(int meeting) {
            return isMeeting(meeting) ? starts[meeting] : 0;
        }

        /** The entry behind the last one of the meeting's week. */
        int endOf(int meeting) {
            return isMeeting(meeting + 1) ? starts[meeting + 1] : size;
        }

        private int latestWeek() {
            return meetingCount == 0 ? -1 : whos[starts[meetingCount - 1]];
        }

        private boolean canBe(int kind, int m, int n) {
            if (kind < BUY || kind > ROBBED || n < LEAST_N[kind] || n > MOST_N[kind]) {
                return false;
            }
            return kind == ROBBED ? m == 0 : isMember(m);
        }

        private int add(int kind, int who, int amount) {
            kinds[size] = kind;
            whos[size] = who;
            amounts[size] = amount;
            size++;
            return size - 1;
        }
    }

    /** What a group keeps to: a number for each topic, numbered as rule() asks for them. */
    private static final class RuleSet {
        static final int STAMP = 0;
        static final int MOST = 1;
        static final int LOAN = 2;
        static final int FLAT = 3;
        static final int FALLING = 4;
        static final int WEEKS = 5;
        static final int LATE = 6;
        static final int ABSENT = 7;
        static final int SOCIAL = 8;
        static final int DEATH = 9;
        static final int TURN = 10;
        static final int ORDER = 11;
        static final int TOPICS = 12;

        static final int BY_SUM = 1;
        static final int BY_STAMPS = 2;
        static final int ORDERS = 3;

        private static final int[] UNTOLD = {10, 5, 300, 10, NONE, 12, 0, 0, 1, 100, 4, 0};
        private static final int[] LOWEST = {1, 1, 0, 0, 0, 1, 0, 0, 0, 0, 1, 0};
        private static final int[] HIGHEST = {1000, 9, 900, 50, 50, 40, 1000, 1000, 1000, 50000, 52, 2};

        private final int[] values = UNTOLD.clone();

        int of(int topic) {
            return topic >= 0 && topic < TOPICS ? values[topic] : NONE;
        }

        void forget() {
            System.arraycopy(UNTOLD, 0, values, 0, TOPICS);
        }

        void copy(RuleSet from) {
            System.arraycopy(from.values, 0, values, 0, TOPICS);
        }

        void tell(int topic, int value) {
            if (topic < 0 || topic >= TOPICS) {
                return;
            }
            values[topic] = value;
            if (topic == FALLING) {
                values[FLAT] = NONE;
            }
        }

        static boolean isInBounds(int topic, int value) {
            return topic >= 0 && topic < TOPICS && value >= LOWEST[topic] && value <= HIGHEST[topic];
        }

        static String topicWord(int topic) {
            switch (topic) {
                case STAMP:
                    return "stamp";
                case MOST:
                    return "most";
                case LOAN:
                    return "loan";
                case FLAT:
                    return "flat";
                case FALLING:
                    return "falling";
                case WEEKS:
                    return "weeks";
                case LATE:
                    return "late";
                case ABSENT:
                    return "absent";
                case SOCIAL:
                    return "social";
                case DEATH:
                    return "death";
                case TURN:
                    return "turn";
                default:
                    return "order";
            }
        }

        static String orderWord(int order) {
            switch (order) {
                case BY_SUM:
                    return "small";
                case BY_STAMPS:
                    return "saved";
                default:
                    return "first";
            }
        }
    }

    /** Reads the tape as rules, token by token, up to the first fault. */
    private static final class RuleReader {
        private static final int SYNTAX = 1;
        private static final int OUT_OF_BOUNDS = 2;
        private static final int TWICE = 3;

        private static final int AT_END = 0;
        private static final int WORD = 1;
        private static final int NUMBER = 2;
        private static final int SEMICOLON = 3;
        private static final int BLANK = 4;
        private static final int NO_TOKEN = 5;

        private static final int MOST_DIGITS = 5;

        private final Tape tape;
        private final RuleSet draft = new RuleSet();
        private final boolean[] told = new boolean[RuleSet.TOPICS];
        private int tokenKind;
        private int tokenStart;
        private int tokenEnd;
        private int faultKind;
        private int faultPlace = NONE;

        RuleReader(Tape tape) {
            this.tape = tape;
        }

        /** How many lines the tape has, told to the target; NONE with a fault. */
        int read(RuleSet target) {
            startAnew();
            // A line has bytes of its own, so there can't be more lines than the tape has room for.
            for (int lines = 0; lines <= Tape.ROOM; lines++) {
                nextToken();
                if (tokenKind == AT_END) {
                    target.copy(draft);
                    return lines;
                }
                if (!readLine()) {
                    return NONE;
                }
            }
            return NONE;
        }

        private void startAnew() {
            draft.forget();
            for (int topic = 0; topic < RuleSet.TOPICS; topic++) {
                told[topic] = false;
            }
            tokenEnd = 0;
            faultKind = 0;
            faultPlace = NONE;
        }

        private boolean readLine() {
            int topic = tokenAsTopic();
            if (topic == NONE) {
                return failed(SYNTAX);
            }
            if (isToldAlready(topic)) {
                return failed(TWICE);
            }
            told[topic] = true;
            nextToken();
            int value = topic == RuleSet.ORDER ? tokenAsOrder() : tokenAsNumber();
            if (value == NONE) {
                return failed(SYNTAX);
            }
            if (!RuleSet.isInBounds(topic, value)) {
                return failed(OUT_OF_BOUNDS);
            }
            draft.tell(topic, value);
            nextToken();
            return tokenKind == SEMICOLON || failed(SYNTAX);
        }

        private boolean failed(int kind) {
            faultKind = kind;
            faultPlace = tokenStart;
            return false;
        }

        private boolean isToldAlready(int topic) {
            if (topic == RuleSet.FLAT || topic == RuleSet.FALLING) {
                return told[RuleSet.FLAT] || told[RuleSet.FALLING];
            }
            return told[topic];
        }

        private int tokenAsTopic() {
            for (int topic = 0; topic < RuleSet.TOPICS; topic++) {
                if (tokenIs(RuleSet.topicWord(topic))) {
                    return topic;
                }
            }
            return NONE;
        }

        private int tokenAsOrder() {
            for (int order = 0; order < RuleSet.ORDERS; order++) {
                if (tokenIs(RuleSet.orderWord(order))) {
                    return order;
                }
            }
            return NONE;
        }

        private int tokenAsNumber() {
            if (tokenKind != NUMBER) {
                return NONE;
            }
            int number = 0;
            for (int place = tokenStart; place < tokenEnd; place++) {
                number = number * 10 + tape.at(place) - '0';
            }
            return number;
        }

        private boolean tokenIs(String word) {
            if (tokenKind != WORD || tokenEnd - tokenStart != word.length()) {
                return false;
            }
            for (int i = 0; i < word.length(); i++) {
                if (tape.at(tokenStart + i) != word.charAt(i)) {
                    return false;
                }
            }
            return true;
        }

        private void nextToken() {
            tokenStart = behindRun(tokenEnd, BLANK);
            tokenKind = kindAt(tokenStart);
            tokenEnd = tokenStart + 1;
            if (tokenKind == WORD || tokenKind == NUMBER) {
                tokenEnd = behindRun(tokenStart, tokenKind);
            }
            if (tokenKind == NUMBER && tokenEnd - tokenStart > MOST_DIGITS) {
                tokenKind = NO_TOKEN;
            }
        }

        private int behindRun(int from, int kind) {
            int place = from;
            while (place < tape.length && kindAt(place) == kind) {
                place++;
            }
            return place;
        }

        private int kindAt(int place) {
            int b = tape.at(place);
            if (b == NONE) {
                return AT_END;
            }
            if (b >= 'a' && b <= 'z') {
                return WORD;
            }
            if (b >= '0' && b <= '9') {
                return NUMBER;
            }
            if (b == ' ' || b == '\n') {
                return BLANK;
            }
            return b == ';' ? SEMICOLON : NO_TOKEN;
        }
    }

    /** The log played by one set of rules; its rows are made once and used for every play. */
    private static final class Year {
        // What is told of each member, numbered as member() asks for it.
        static final int STAMPS = 0;
        static final int OWES = 1;
        static final int LENT = 2;
        static final int PAID_BACK = 3;
        static final int DUES_PAID = 4;
        static final int WAITED = 5;
        static final int REFUSED = 6;
        static final int GONE = 7;
        static final int GOT_WHEN_GONE = 8;
        static final int SHARE = 9;
        static final int GETS = 10;
        static final int IN_DEFAULT = 11;
        static final int BOUGHT = 12;
        static final int MEMBER_FIELDS = 13;

        // What is told of each meeting, numbered as meeting() asks for it.
        static final int WEEK = 0;
        static final int OPEN = 1;
        static final int BOX_THEN = 2;
        static final int FUND_THEN = 3;
        static final int OWED_THEN = 4;
        static final int STAMPS_THEN = 5;
        static final int QUEUED_THEN = 6;
        static final int FIRST_KEY = 7;
        static final int MEETING_FIELDS = 10;

        // The sums, numbered as sum() asks for them.
        static final int OPEN_MEETINGS = 0;
        static final int SHUT_MEETINGS = 1;
        static final int BOX = 2;
        static final int FUND = 3;
        static final int OWED = 4;
        static final int TOTAL = 5;
        static final int REST = 6;
        static final int LOST_BY_GONE = 7;
        static final int LOST_BY_DEFAULT = 8;
        static final int STOLEN = 9;
        static final int PAID_BY_FUND = 10;
        static final int INTEREST = 11;
        static final int SUMS = 12;

        private static final int KEYS = 3;
        private static final int INTEREST_WEEKS = 4;

        private final Log log;
        private final int[][] ofMember = new int[MEMBER_FIELDS][Log.MOST_MEMBERS];
        private final int[][] ofMeeting = new int[MEETING_FIELDS][Log.WEEKS];
        private final int[] sums = new int[SUMS];
        private final int[] keys = new int[KEYS];
        private final int[] givenInWeek = new int[Log.MOST_MEMBERS];
        // Up to which week a falling loan's interest has been put to it.
        private final int[] reckonedToWeek = new int[Log.MOST_MEMBERS];
        private final int[] boughtToday = new int[Log.MOST_MEMBERS];
        // What a member in the queue asked for; 0 for who isn't in it.
        private final int[] asked = new int[Log.MOST_MEMBERS];
        private final int[] queue = new int[Log.MOST_MEMBERS];
        private final int[] servingOrder = new int[Log.MOST_MEMBERS];
        private int queued;
        private int week;
        private int there;
        private RuleSet ruleSet;

        Year(Log log, RuleSet by) {
            this.log = log;
            this.ruleSet = by;
        }

        void playAll(RuleSet by) {
            begin(by);
            for (int i = 0; i < log.meetingCount; i++) {
                playMeeting(i);
            }
            part();
        }

        void begin(RuleSet by) {
            ruleSet = by;
            for (int field = 0; field < MEMBER_FIELDS; field++) {
                Arrays.fill(ofMember[field], 0);
            }
            Arrays.fill(sums, 0);
            Arrays.fill(asked, 0);
            queued = 0;
        }

        void playMeeting(int i) {
            if (!log.isMeeting(i)) {
                return;
            }
            int start = log.startOf(i);
            week = log.whos[start];
            there = log.amounts[start];
            handOutKeys();
            boolean open = isOpen();
            if (open) {
                collectDues();
                growFallingLoans();
                collectLateDues();
                Arrays.fill(boughtToday, 0);
            }
            int end = log.endOf(i);
            for (int e = start + 1; e < end; e++) {
                doEntry(log.kinds[e], log.whos[e], log.amounts[e], open);
            }
            if (open) {
                serveQueue();
            }
            writeDown(i, open);
        }

        boolean differsFrom(Year other) {
            if (sums[BOX] != other.sums[BOX] || sums[FUND] != other.sums[FUND]) {
                return true;
            }
            for (int m = 0; m < log.memberCount; m++) {
                if (ofMember[OWES][m] != other.ofMember[OWES][m]) {
                    return true;
                }
            }
            return false;
        }

        int hasOfTheYear(int m) {
            if (!log.isMember(m)) {
                return 0;
            }
            int had = ofMember[GETS][m] + ofMember[GOT_WHEN_GONE][m] + ofMember[LENT][m];
            int forStamps = ofMember[BOUGHT][m] * ruleSet.of(RuleSet.STAMP);
            return had - ofMember[PAID_BACK][m] - forStamps - ofMember[DUES_PAID][m];
        }

        // ---- keys

        private void handOutKeys() {
            int turn = ruleSet.of(RuleSet.TURN);
            int first = turn < 1 ? 0 : KEYS * (week / turn);
            for (int k = 0; k < KEYS; k++) {
                keys[k] = (first + k) % Math.max(log.memberCount, 1);
            }
            for (int k = 0; k < KEYS; k++) {
                if (isGone(keys[k])) {
                    keys[k] = nextWithoutKey(keys[k]);
                }
            }
        }

        private int nextWithoutKey(int gone) {
            for (int step = 1; step < log.memberCount; step++) {
                int m = (gone + step) % log.memberCount;
                if (!isGone(m) && !hasKey(m)) {
                    return m;
                }
            }
            return NONE;
        }

        private boolean hasKey(int m) {
            return keys[0] == m || keys[1] == m || keys[2] == m;
        }

        private boolean isOpen() {
            boolean somebody = false;
            for (int k = 0; k < KEYS; k++) {
                if (keys[k] != NONE) {
                    somebody = true;
                    if (!isThere(keys[k])) {
                        return false;
                    }
                }
            }
            return somebody;
        }

        private boolean isThere(int m) {
            return (there >> m & 1) == 1;
        }

        private boolean isGone(int m) {
            return ofMember[GONE][m] == 1;
        }

        // ---- as an open meeting begins

        private void collectDues() {
            for (int m = 0; m < log.memberCount; m++) {
                if (isGone(m)) {
                    continue;
                }
                if (isThere(m)) {
                    payDue(m, ruleSet.of(RuleSet.SOCIAL), FUND);
                } else {
                    payDue(m, ruleSet.of(RuleSet.ABSENT), BOX);
                }
            }
        }

        private void growFallingLoans() {
            int falling = ruleSet.of(RuleSet.FALLING);
            if (falling == NONE) {
                return;
            }
            for (int m = 0; m < log.memberCount; m++) {
                if (ofMember[OWES][m] > 0) {
                    growFallingLoan(m, falling);
                }
            }
        }

        private void growFallingLoan(int m, int falling) {
            for (int due = reckonedToWeek[m] + INTEREST_WEEKS; due <= week; due += INTEREST_WEEKS) {
                putInterest(m, hundredths(ofMember[OWES][m], falling));
                reckonedToWeek[m] = due;
            }
        }

        private void collectLateDues() {
            for (int m = 0; m < log.memberCount; m++) {
                if (ofMember[OWES][m] > 0 && week - givenInWeek[m] >= ruleSet.of(RuleSet.WEEKS)) {
                    payDue(m, ruleSet.of(RuleSet.LATE), BOX);
                }
            }
        }

        private void payDue(int m, int amount, int into) {
            sums[into] += amount;
            ofMember[DUES_PAID][m] += amount;
        }

        private void putInterest(int m, int interest) {
            ofMember[OWES][m] += interest;
            sums[INTEREST] += interest;
        }

        // ---- entries

        private void doEntry(int kind, int m, int n, boolean open) {
            if (kind == Log.ROBBED) {
                sums[STOLEN] += takeFrom(BOX, n);
                return;
            }
            if (!open || isGone(m)) {
                return;
            }
            if (kind == Log.DIED) {
                sums[PAID_BY_FUND] += takeFrom(FUND, ruleSet.of(RuleSet.DEATH));
                leave(m);
            } else if (kind == Log.LEFT) {
                leave(m);
            } else if (isThere(m)) {
                doEntryOfOneThere(m, kind, n);
            }
        }

        private void doEntryOfOneThere(int m, int kind, int n) {
            switch (kind) {
                case Log.BUY:
                    buy(m, n);
                    break;
                case Log.ASK:
                    ask(m, n);
                    break;
                case Log.PAY:
                    payBack(m, n);
                    break;
                case Log.FINE:
                    payDue(m, n, BOX);
                    break;
                default:
                    break;
            }
        }

        private void buy(int m, int n) {
            int stamps = Math.min(n, ruleSet.of(RuleSet.MOST) - boughtToday[m]);
            boughtToday[m] += stamps;
            ofMember[STAMPS][m] += stamps;
            ofMember[BOUGHT][m] += stamps;
            sums[BOX] += stamps * ruleSet.of(RuleSet.STAMP);
        }

        private void ask(int m, int n) {
            int saved = ofMember[STAMPS][m] * ruleSet.of(RuleSet.STAMP);
            boolean tooMuch = n > hundredths(saved, ruleSet.of(RuleSet.LOAN));
            if (ofMember[OWES][m] > 0 || asked[m] > 0 || tooMuch || queued >= queue.length) {
                ofMember[REFUSED][m]++;
                return;
            }
            asked[m] = n;
            queue[queued] = m;
            queued++;
        }

        private void payBack(int m, int n) {
            int paid = Math.min(n, ofMember[OWES][m]);
            ofMember[OWES][m] -= paid;
            ofMember[PAID_BACK][m] += paid;
            sums[BOX] += paid;
        }

        private void leave(int m) {
            int worth = partOf(sums[BOX] + total(OWES), ofMember[STAMPS][m], total(STAMPS));
            int owes = ofMember[OWES][m];
            ofMember[GOT_WHEN_GONE][m] = takeFrom(BOX, Math.max(worth - owes, 0));
            sums[LOST_BY_GONE] += Math.max(owes - worth, 0);
            ofMember[STAMPS][m] = 0;
            ofMember[OWES][m] = 0;
            ofMember[GONE][m] = 1;
            asked[m] = 0;
            closeQueue();
        }

        private int takeFrom(int purse, int amount) {
            int taken = Math.min(amount, sums[purse]);
            sums[purse] -= taken;
            return taken;
        }

        // ---- the queue

        private void serveQueue() {
            lineUp();
            for (int i = 0; i < queued; i++) {
                int m = servingOrder[i];
                if (asked[m] <= sums[BOX]) {
                    lend(m);
                } else {
                    ofMember[WAITED][m]++;
                }
            }
            closeQueue();
        }

        private void lineUp() {
            for (int i = 0; i < queued; i++) {
                int m = queue[i];
                int place = i;
                while (place > 0 && goesAhead(m, servingOrder[place - 1])) {
                    servingOrder[place] = servingOrder[place - 1];
                    place--;
                }
                servingOrder[place] = m;
            }
        }

        private boolean goesAhead(int later, int earlier) {
            switch (ruleSet.of(RuleSet.ORDER)) {
                case RuleSet.BY_SUM:
                    return asked[later] < asked[earlier];
                case RuleSet.BY_STAMPS:
                    return ofMember[STAMPS][later] > ofMember[STAMPS][earlier];
                default:
                    return false;
            }
        }

        private void lend(int m) {
            int amount = asked[m];
            asked[m] = 0;
            sums[BOX] -= amount;
            ofMember[LENT][m] += amount;
            ofMember[OWES][m] = amount;
            givenInWeek[m] = week;
            reckonedToWeek[m] = week;
            if (ruleSet.of(RuleSet.FLAT) != NONE) {
                int begun = (ruleSet.of(RuleSet.WEEKS) + INTEREST_WEEKS - 1) / INTEREST_WEEKS;
                putInterest(m, hundredths(amount, ruleSet.of(RuleSet.FLAT)) * begun);
            }
        }

        /** Who asks for nothing any more is out of the queue. */
        private void closeQueue() {
            int kept = 0;
            for (int i = 0; i < queued; i++) {
                if (asked[queue[i]] > 0) {
                    queue[kept] = queue[i];
                    kept++;
                }
            }
            queued = kept;
        }

        private void writeDown(int i, boolean open) {
            sums[open ? OPEN_MEETINGS : SHUT_MEETINGS]++;
            ofMeeting[WEEK][i] = week;
            ofMeeting[OPEN][i] = open ? 1 : 0;
            ofMeeting[BOX_THEN][i] = sums[BOX];
            ofMeeting[FUND_THEN][i] = sums[FUND];
            ofMeeting[OWED_THEN][i] = total(OWES);
            ofMeeting[STAMPS_THEN][i] = total(STAMPS);
            ofMeeting[QUEUED_THEN][i] = queued;
            for (int k = 0; k < KEYS; k++) {
                ofMeeting[FIRST_KEY + k][i] = keys[k];
            }
        }

        // ---- parting

        private void part() {
            sums[OWED] = total(OWES);
            sums[TOTAL] = sums[BOX] + sums[OWED];
            int stamps = total(STAMPS);
            reckonShares(stamps);
            // Each round puts one more member in default, so there are no more rounds than members.
            for (int round = 0; round < log.memberCount; round++) {
                int m = lowestOverShare();
                if (m == NONE) {
                    break;
                }
                sums[LOST_BY_DEFAULT] += ofMember[OWES][m] - ofMember[SHARE][m];
                sums[TOTAL] -= ofMember[OWES][m];
                stamps -= ofMember[STAMPS][m];
                ofMember[IN_DEFAULT][m] = 1;
                reckonShares(stamps);
            }
            payOut();
        }

        private void reckonShares(int stamps) {
            for (int m = 0; m < log.memberCount; m++) {
                boolean out = ofMember[IN_DEFAULT][m] == 1;
                ofMember[SHARE][m] = out ? 0 : partOf(sums[TOTAL], ofMember[STAMPS][m], stamps);
            }
        }

        private int lowestOverShare() {
            for (int m = 0; m < log.memberCount; m++) {
                if (ofMember[IN_DEFAULT][m] == 0 && ofMember[OWES][m] > ofMember[SHARE][m]) {
                    return m;
                }
            }
            return NONE;
        }

        private void payOut() {
            sums[REST] = sums[BOX];
            for (int m = 0; m < log.memberCount; m++) {
                if (ofMember[IN_DEFAULT][m] == 0) {
                    ofMember[GETS][m] = ofMember[SHARE][m] - ofMember[OWES][m];
                    sums[REST] -= ofMember[GETS][m];
                }
            }
        }

        private int total(int field) {
            int total = 0;
            for (int m = 0; m < log.memberCount; m++) {
                total += ofMember[field][m];
            }
            return total;
        }

        /** Long inside: a year's money times its stamps is beyond an int. */
        private static int partOf(int money, int stamps, int allStamps) {
            return allStamps <= 0 ? 0 : (int) ((long) money * stamps / allStamps);
        }

        /** Long inside: what is saved times the loan's hundredths is beyond an int. */
        private static int hundredths(int amount, int rate) {
            return (int) ((long) amount * rate / 100);
        }
    }
}
