import java.nio.charset.StandardCharsets;

/** What the tests share: counting wrong answers, and telling texts to a box. */
final class Check {
    private int asked;
    private int wrong;
    private int sentences;
    private String words = "";

    /** One sentence of the document, with a test of its own: what is wrong is told under its words. */
    void sentence(String its, Runnable test) {
        words = its;
        sentences++;
        int before = asked;
        try {
            test.run();
        } catch (RuntimeException e) {
            note("the test ended with " + e);
        }
        if (asked == before) {
            note("the test looked at no answer");
        }
        words = "";
    }

    void due(String what, long got, long want) {
        asked++;
        if (got != want) {
            note(what + " answered " + got + ", due is " + want);
        }
    }

    /** Every answer of a row of calls, by the number each call asks for: 0, 1, 2, .. */
    void dueRow(String what, int[] got, int... want) {
        due(what + ", how many", got.length, want.length);
        for (int i = 0; i < Math.min(got.length, want.length); i++) {
            due(what + " [" + i + "]", got[i], want[i]);
        }
    }

    private void note(String fault) {
        wrong++;
        System.out.println((words.isEmpty() ? "" : "\"" + words + "\": ") + fault);
    }

    void finish() {
        String of = sentences == 0 ? "" : " for " + sentences + " sentences";
        System.out.println(asked + " answers looked at" + of + ", " + wrong + " wrong");
        if (wrong != 0 || asked == 0) {
            System.exit(1);
        }
    }

    /** Puts the text on the tape, alone. */
    static int write(KeyBox box, String text) {
        return write(box, text.getBytes(StandardCharsets.ISO_8859_1));
    }

    static int write(KeyBox box, byte[] text) {
        box.end(0);
        for (int from = 0; from < text.length; from += 20) {
            int[] words = new int[5];
            for (int i = 0; i < 20; i++) {
                int b = from + i < text.length ? text[from + i] & 255 : 0;
                words[i / 4] = words[i / 4] << 8 | b;
            }
            box.feed(words[0], words[1], words[2], words[3], words[4]);
        }
        return box.end(text.length);
    }

    static int tell(KeyBox box, int r, String text) {
        write(box, text);
        return box.rules(r);
    }

    static int[] rule(KeyBox box, int r) {
        int[] row = new int[12];
        for (int what = 0; what < row.length; what++) {
            row[what] = box.rule(r, what);
        }
        return row;
    }

    static int[] member(KeyBox box, int m) {
        int[] row = new int[13];
        for (int what = 0; what < row.length; what++) {
            row[what] = box.member(m, what);
        }
        return row;
    }

    static int[] meeting(KeyBox box, int i) {
        int[] row = new int[10];
        for (int what = 0; what < row.length; what++) {
            row[what] = box.meeting(i, what);
        }
        return row;
    }

    static int[] sums(KeyBox box) {
        int[] row = new int[12];
        for (int what = 0; what < row.length; what++) {
            row[what] = box.sum(what);
        }
        return row;
    }
}
