import java.util.Arrays;
import java.util.Random;

/** Random years, every answer held against PlainBox's. */
public final class ModelTest {
    private static final int RUNS = 1500;
    private static final int READ_CALLS = 150;
    private static final String[] PIECES = {"stamp", "most", "loan", "flat", "falling", "weeks",
        "late", "absent", "social", "death", "turn", "order", "first", "small", "saved", ";", ";", " ",
        "\n", "0", "1", "7", "12", "00042", "51", "53", "901", "1000", "1001", "50001", "123456", "\t", "S", "\u00e9"};

    private final Random random;
    private final KeyBox box = new KeyBox();
    private final PlainBox plain = new PlainBox();
    private final StringBuilder calls = new StringBuilder();
    // What the run has seen, so that the test can say that its years were no empty ones.
    private static long[] seen = new long[13];
    private static long[] faults = new long[4];
    private static long partings;
    private int week = -1;
    private int members = 3;

    private ModelTest(long seed) {
        random = new Random(seed);
    }

    public static void main(String[] args) {
        for (long seed = 1; seed <= RUNS; seed++) {
            new ModelTest(seed).run();
        }
        System.out.println("members' rows seen with a number in them: " + Arrays.toString(seen));
        System.out.println("rules by their fault's kind: " + Arrays.toString(faults) + "; partings: " + partings);
        boolean rich = Arrays.stream(seen).allMatch(n -> n > 100) && Arrays.stream(faults).allMatch(n -> n > 100);
        if (!rich || partings < 100) {
            System.out.println("the years were too poor to tell anything");
            System.exit(1);
        }
        System.out.println("all answers of " + RUNS + " runs were alike");
    }

    private void same(String call, int got, int want) {
        calls.append(call).append(" = ").append(got).append('\n');
        if (got != want) {
            System.out.println(calls + "the last answer should be " + want);
            System.exit(1);
        }
    }

    private void run() {
        members = 3 + random.nextInt(random.nextBoolean() ? 4 : 22);
        same("members " + members, box.members(members), plain.members(members));
        boolean wild = random.nextInt(8) == 0;
        for (int r = 0; r < 4; r++) {
            tell(r, goodText());
        }
        // Now and then a LOG that comes to be full.
        int entries = 20 + random.nextInt(random.nextInt(10) == 0 ? 340 : 200);
        for (int i = 0; i < entries; i++) {
            if (wild && random.nextInt(4) == 0) {
                wildCall();
            } else {
                log();
            }
        }
        for (int i = 0; i < READ_CALLS; i++) {
            readCall();
            if (random.nextInt(60) == 0) {
                log();
            }
            if (random.nextInt(60) == 0) {
                tell(random.nextInt(4), random.nextBoolean() ? goodText() : badText());
            }
        }
        wholeYear(random.nextInt(4));
    }

    private void wholeYear(int r) {
        same("play " + r, box.play(r), plain.play(r));
        for (int m = 0; m < members; m++) {
            for (int what = 0; what < 13; what++) {
                same("member " + m + " " + what, box.member(m, what), plain.member(m, what));
                seen[what] += box.member(m, what) > 0 ? 1 : 0;
            }
        }
        for (int i = 0; i < plain.count(2); i++) {
            for (int what = 0; what < 10; what++) {
                same("meeting " + i + " " + what, box.meeting(i, what), plain.meeting(i, what));
            }
        }
        for (int what = 0; what < 12; what++) {
            same("sum " + what, box.sum(what), plain.sum(what));
        }
        for (int s = 0; s < 4; s++) {
            same("parts " + r + " " + s, box.parts(r, s), plain.parts(r, s));
            partings += box.parts(r, s) > 0 ? 1 : 0;
            int m = random.nextInt(members);
            same("gains " + r + " " + s + " " + m, box.gains(r, s, m), plain.gains(r, s, m));
        }
        same("sum 2 behind parts", box.sum(2), plain.sum(2));
        same("count 4", box.count(4), plain.count(4));
    }

    private void log() {
        if (week < 0 || random.nextInt(6) == 0 && week < 51) {
            int next = week + 1 + random.nextInt(random.nextInt(3) == 0 ? 6 : 1);
            int all = (1 << members) - 1;
            int there = random.nextInt(4) > 0 ? all : all & ~(1 << random.nextInt(members));
            there = random.nextInt(12) == 0 ? random.nextInt(all + 1) : there;
            same("meet " + next + " " + there, box.meet(next, there), plain.meet(next, there));
            week = next <= 51 ? next : week;
            return;
        }
        int kind = new int[] {1, 1, 1, 1, 1, 2, 2, 2, 2, 3, 3, 4, 5, 6, 7}[random.nextInt(15)];
        if (kind >= 5 && random.nextInt(3) > 0) {
            kind = 1;
        }
        int m = kind == 7 ? 0 : random.nextInt(members);
        int[] most = {0, 9, random.nextInt(5) == 0 ? 5000 : 200, 300, 40, 1, 1, 100};
        int n = kind == 5 || kind == 6 ? 0 : 1 + random.nextInt(most[kind]);
        same("enter " + kind + " " + m + " " + n, box.enter(kind, m, n), plain.enter(kind, m, n));
    }

    private void tell(int r, String text) {
        byte[] bytes = text.getBytes(java.nio.charset.StandardCharsets.ISO_8859_1);
        bytes = Arrays.copyOf(bytes, Math.min(bytes.length, 480));
        same("end 0", box.end(0), plain.end(0));
        for (int from = 0; from < bytes.length; from += 20) {
            int[] f = new int[5];
            for (int i = 0; i < 20; i++) {
                f[i / 4] = f[i / 4] << 8 | (from + i < bytes.length ? bytes[from + i] & 255 : 0);
            }
            same("feed", box.feed(f[0], f[1], f[2], f[3], f[4]), plain.feed(f[0], f[1], f[2], f[3], f[4]));
        }
        same("end " + bytes.length, box.end(bytes.length), plain.end(bytes.length));
        same("rules " + r + " of '" + text + "'", box.rules(r), plain.rules(r));
        same("fault 0", box.fault(0), plain.fault(0));
        same("fault 1", box.fault(1), plain.fault(1));
        faults[box.fault(0)]++;
        for (int what = 0; what < 12; what++) {
            same("rule " + r + " " + what, box.rule(r, what), plain.rule(r, what));
        }
    }

    private String goodText() {
        String[] lines = {"stamp " + (1 + random.nextInt(60)), "most " + (1 + random.nextInt(9)),
            "loan " + random.nextInt(901), (random.nextBoolean() ? "flat " : "falling ") + random.nextInt(51),
            "weeks " + (1 + random.nextInt(40)), "late " + random.nextInt(20), "absent " + random.nextInt(9),
            "social " + random.nextInt(9), "death " + random.nextInt(200), "turn " + (1 + random.nextInt(52)),
            "order " + PIECES[12 + random.nextInt(3)]};
        StringBuilder text = new StringBuilder();
        for (String line : lines) {
            if (random.nextInt(3) > 0) {
                text.insert(0, line + (random.nextBoolean() ? ";" : " ;\n"));
            }
        }
        return text.toString();
    }

    private String badText() {
        StringBuilder text = new StringBuilder(random.nextBoolean() ? goodText() : "");
        if (random.nextBoolean()) {
            // A line that is right but for its number, or for its being told twice.
            return text.append(PIECES[random.nextInt(11)]).append(' ').append(edgeNumber()).append(";").toString();
        }
        for (int i = random.nextInt(8); i > 0; i--) {
            String piece = PIECES[random.nextInt(PIECES.length)] + (random.nextBoolean() ? " " : "");
            text.insert(random.nextInt(3) == 0 ? random.nextInt(text.length() + 1) : text.length(), piece);
        }
        return text.toString();
    }

    private int edgeNumber() {
        int[] edges = {0, 1, 9, 10, 40, 41, 50, 51, 52, 53, 900, 901, 1000, 1001, 50000, 50001, 99999};
        return edges[random.nextInt(edges.length)];
    }

    private int wild() {
        int[] edges = {-1, 0, 1, 2, 3, 4, 7, 8, 9, 10, 24, 51, 52, 500, 1000, 100001, Integer.MIN_VALUE, Integer.MAX_VALUE};
        return random.nextInt(3) == 0 ? random.nextInt(30) - 2 : edges[random.nextInt(edges.length)];
    }

    private void wildCall() {
        int a = wild();
        int b = wild();
        int c = wild();
        if (random.nextInt(3) == 0) {
            same("enter " + a + " " + b + " " + c, box.enter(a, b, c), plain.enter(a, b, c));
        } else if (random.nextInt(2) == 0) {
            same("meet " + a + " " + b, box.meet(a, b), plain.meet(a, b));
        } else {
            same("back", box.back(), plain.back());
        }
        int meetings = plain.count(2);
        week = meetings == 0 ? -1 : week;
        same("members " + a, box.members(a), plain.members(a));
        members = plain.count(0);
    }

    private void readCall() {
        int a = wild();
        int b = wild();
        int c = wild();
        switch (random.nextInt(11)) {
            case 0 -> same("play " + a, box.play(a), plain.play(a));
            case 1 -> same("member " + a + " " + b, box.member(a, b), plain.member(a, b));
            case 2 -> same("meeting " + a + " " + b, box.meeting(a, b), plain.meeting(a, b));
            case 3 -> same("sum " + a, box.sum(a), plain.sum(a));
            case 4 -> same("parts " + a + " " + b, box.parts(a, b), plain.parts(a, b));
            case 5 -> same("gains " + a + " " + b + " " + c, box.gains(a, b, c), plain.gains(a, b, c));
            case 6 -> same("count " + a, box.count(a), plain.count(a));
            case 7 -> same("entry " + a + " " + b, box.entry(a, b), plain.entry(a, b));
            case 8 -> same("rule " + a + " " + b, box.rule(a, b), plain.rule(a, b));
            case 9 -> same("fault " + a, box.fault(a), plain.fault(a));
            default -> same("end " + a, box.end(a), plain.end(a));
        }
    }
}
