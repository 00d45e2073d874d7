import java.nio.charset.StandardCharsets;

/** What the tests share: counting wrong answers, and telling texts to a box. */
final class Check {
    private int asked;
    private int wrong;

    void due(String what, long got, long want) {
        asked++;
        if (got != want) {
            wrong++;
            System.out.println(what + " answered " + got + ", due is " + want);
        }
    }

    /** Every answer of a row of calls, by the number each call asks for: 0, 1, 2, .. */
    void dueRow(String what, int[] got, int... want) {
        due(what + ", how many", got.length, want.length);
        for (int i = 0; i < Math.min(got.length, want.length); i++) {
            due(what + " [" + i + "]", got[i], want[i]);
        }
    }

    void finish() {
        System.out.println(asked + " answers looked at, " + wrong + " wrong");
        if (wrong != 0 || asked == 0) {
            System.exit(1);
        }
    }

    /** Puts the text on the tape, alone. */
    static int write(KeyBox box, String text) {
        return write(box, text.getBytes(StandardCharsets.ISO_8859_1));
    }

    static int write(KeyBox box, byte[] text) {
        box.end(0);
        for (int from = 0; from < text.length; from += 20) {
            int[] words = new int[5];
            for (int i = 0; i < 20; i++) {
                int b = from + i < text.length ? text[from + i] & 255 : 0;
                words[i / 4] = words[i / 4] << 8 | b;
            }
            box.feed(words[0], words[1], words[2], words[3], words[4]);
        }
        return box.end(text.length);
    }

    static int tell(KeyBox box, int r, String text) {
        write(box, text);
        return box.rules(r);
    }

    static int[] rule(KeyBox box, int r) {
        int[] row = new int[12];
        for (int what = 0; what < row.length; what++) {
            row[what] = box.rule(r, what);
        }
        return row;
    }

    static int[] member(KeyBox box, int m) {
        int[] row = new int[13];
        for (int what = 0; what < row.length; what++) {
            row[what] = box.member(m, what);
        }
        return row;
    }

    static int[] meeting(KeyBox box, int i) {
        int[] row = new int[10];
        for (int what = 0; what < row.length; what++) {
            row[what] = box.meeting(i, what);
        }
        return row;
    }

    static int[] sums(KeyBox box) {
        int[] row = new int[12];
        for (int what = 0; what < row.length; what++) {
            row[what] = box.sum(what);
        }
        return row;
    }
}
