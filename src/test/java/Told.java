/** A year told call by call; a call that is not taken ends the test, for it would tell another year. */
final class Told {
    private final KeyBox box = new KeyBox();
    private final int all;

    private Told(int members) {
        all = (1 << members) - 1;
        taken("members", box.members(members), 1);
    }

    /** A group with RULES 0 of the text. */
    static Told group(int members, String text) {
        return new Told(members).rules(0, text);
    }

    Told rules(int r, String text) {
        Check.tell(box, r, text);
        taken("the text '" + text + "'", box.fault(0), 0);
        return this;
    }

    /** All are there. */
    Told meet(int week) {
        return meetOf(week, all);
    }

    /** All but these are there. */
    Told meetWithout(int week, int... away) {
        int there = all;
        for (int m : away) {
            there &= ~(1 << m);
        }
        return meetOf(week, there);
    }

    Told meetOf(int week, int there) {
        int at = box.count(1);
        taken("meet in week " + week, box.meet(week, there), at);
        return this;
    }

    Told buy(int m, int stamps) {
        return enter(1, m, stamps);
    }

    /** One stamp for each of the first so many. */
    Told buyOneEach(int members) {
        for (int m = 0; m < members; m++) {
            buy(m, 1);
        }
        return this;
    }

    Told ask(int m, int pence) {
        return enter(2, m, pence);
    }

    Told pay(int m, int pence) {
        return enter(3, m, pence);
    }

    Told fine(int m, int pence) {
        return enter(4, m, pence);
    }

    Told died(int m) {
        return enter(5, m, 0);
    }

    Told left(int... members) {
        for (int m : members) {
            enter(6, m, 0);
        }
        return this;
    }

    Told robbed(int pence) {
        return enter(7, 0, pence);
    }

    /** Played by RULES 0. */
    KeyBox play() {
        box.play(0);
        taken("count(4) behind play(0)", box.count(4), 0);
        return box;
    }

    KeyBox box() {
        return box;
    }

    private Told enter(int kind, int m, int n) {
        int at = box.count(1);
        taken("enter(" + kind + ", " + m + ", " + n + ")", box.enter(kind, m, n), at);
        return this;
    }

    private static void taken(String what, int got, int want) {
        if (got != want) {
            throw new IllegalStateException(what + " answered " + got + ", due is " + want);
        }
    }
}
