import java.util.ArrayList;
import java.util.Arrays;
import java.util.Comparator;
import java.util.HashSet;
import java.util.LinkedHashMap;
import java.util.List;
import java.util.Map;
import java.util.Set;
import java.util.regex.Matcher;
import java.util.regex.Pattern;

/** The document told a second time, plainly and with all of Java's library, for ModelTest to ask. */
final class PlainBox {
    private static final List<String> WORDS = List.of("stamp", "most", "loan", "flat", "falling",
            "weeks", "late", "absent", "social", "death", "turn", "order");
    private static final int[][] BOUNDS = {{1, 1000}, {1, 9}, {0, 900}, {0, 50}, {0, 50}, {1, 40},
            {0, 1000}, {0, 1000}, {0, 1000}, {0, 50000}, {1, 52}};
    private static final List<String> ORDERS = List.of("first", "small", "saved");
    private static final Pattern TOKEN = Pattern.compile("[ \\n]*([a-z]+|[0-9]+|;|[^ \\n])?", Pattern.DOTALL);

    private String tape = "";
    private int members = 3;
    private final List<int[]> entries = new ArrayList<>();
    private final List<Map<String, Integer>> ruleSets = new ArrayList<>();
    private int[] fault = {0, -1};
    private Played latest;
    private int latestRules = -1;

    PlainBox() {
        for (int r = 0; r < 4; r++) {
            ruleSets.add(untold());
        }
    }

    private static Map<String, Integer> untold() {
        Map<String, Integer> rules = new LinkedHashMap<>();
        int[] values = {10, 5, 300, 10, -1, 12, 0, 0, 1, 100, 4, 0};
        for (int i = 0; i < values.length; i++) {
            rules.put(WORDS.get(i), values[i]);
        }
        return rules;
    }

    int feed(int a, int b, int c, int d, int e) {
        if (tape.length() > 480) {
            return -3;
        }
        StringBuilder more = new StringBuilder(tape);
        for (int four : new int[] {a, b, c, d, e}) {
            more.append((char) (four >>> 24)).append((char) (four >>> 16 & 255));
            more.append((char) (four >>> 8 & 255)).append((char) (four & 255));
        }
        tape = more.toString();
        return tape.length();
    }

    int end(int n) {
        if (n < 0 || tape.length() < n) {
            return -1;
        }
        tape = tape.substring(0, n);
        return n;
    }

    int members(int n) {
        if (n < 3 || n > 24) {
            return -2;
        }
        if (!entries.isEmpty()) {
            return -4;
        }
        members = n;
        return 1;
    }

    private List<int[]> meetings() {
        return entries.stream().filter(e -> e[0] == 0).toList();
    }

    int meet(int week, int there) {
        List<int[]> before = meetings();
        int above = before.isEmpty() ? -1 : before.get(before.size() - 1)[1];
        if (week <= above || week > 51 || there < 0 || there > (1L << members) - 1) {
            return -2;
        }
        return log(0, week, there);
    }

    int enter(int kind, int m, int n) {
        int[] from = {0, 1, 1, 1, 1, 0, 0, 1};
        int[] to = {0, 9, 100000, 100000, 1000, 0, 0, 1000000};
        if (kind < 1 || kind > 7 || m < 0 || m >= members || kind == 7 && m != 0 || n < from[kind] || n > to[kind]) {
            return -2;
        }
        if (meetings().isEmpty()) {
            return -4;
        }
        return log(kind, m, n);
    }

    private int log(int kind, int a, int b) {
        if (entries.size() == 300) {
            return -3;
        }
        entries.add(new int[] {kind, a, b});
        latestRules = -1;
        return entries.size() - 1;
    }

    int entry(int i, int what) {
        return i < 0 || i >= entries.size() || what < 0 || what > 2 ? -9 : entries.get(i)[what];
    }

    int back() {
        if (entries.isEmpty()) {
            return -4;
        }
        entries.remove(entries.size() - 1);
        latestRules = -1;
        return entries.size();
    }

    int rules(int r) {
        if (r < 0 || r > 3) {
            return -2;
        }
        String text = tape;
        tape = "";
        fault = new int[] {0, -1};
        Map<String, Integer> rules = untold();
        Set<String> told = new HashSet<>();
        Matcher matcher = TOKEN.matcher(text);
        int lines = 0;
        int state = 0; // 0: a line's first word is due, 1: what follows it, 2: its end
        String topic = "";
        while (matcher.find()) {
            String token = matcher.group(1);
            int kind = 0;
            if (token == null) {
                kind = state == 0 ? 0 : 1;
            } else if (state == 0) {
                topic = token;
                String group = token.startsWith("f") ? "interest" : token;
                kind = !WORDS.contains(token) ? 1 : !told.add(group) ? 3 : 0;
            } else if (state == 1 && topic.equals("order")) {
                kind = ORDERS.contains(token) ? 0 : 1;
                rules.put("order", ORDERS.indexOf(token));
            } else if (state == 1) {
                if (!token.matches("[0-9]{1,5}")) {
                    kind = 1;
                } else {
                    int value = Integer.parseInt(token);
                    int[] bounds = BOUNDS[WORDS.indexOf(topic)];
                    kind = value < bounds[0] || value > bounds[1] ? 2 : 0;
                    rules.put("flat", topic.equals("falling") ? Integer.valueOf(-1) : rules.get("flat"));
                    rules.put(topic, value);
                }
            } else {
                kind = token.equals(";") ? 0 : 1;
                lines++;
            }
            if (kind != 0) {
                fault = new int[] {kind, token == null ? text.length() : matcher.start(1)};
                return -1;
            }
            if (token == null) {
                break;
            }
            state = (state + 1) % 3;
        }
        ruleSets.set(r, rules);
        latestRules = -1;
        return lines;
    }

    int fault(int what) {
        return what == 0 || what == 1 ? fault[what] : -1;
    }

    int rule(int r, int what) {
        return r < 0 || r > 3 || what < 0 || what > 11 ? -9 : ruleSets.get(r).get(WORDS.get(what));
    }

    int play(int r) {
        if (r < 0 || r > 3) {
            return -2;
        }
        latest = new Played(ruleSets.get(r));
        latestRules = r;
        return (int) latest.sums[0];
    }

    int member(int m, int what) {
        if (latestRules < 0 || m < 0 || m >= members || what < 0 || what > 12) {
            return -9;
        }
        return m < latest.people.size() ? latest.people.get(m).tell(what) : 0;
    }

    int meeting(int i, int what) {
        if (latestRules < 0 || i < 0 || i >= latest.told.size() || what < 0 || what > 9) {
            return -9;
        }
        return (int) latest.told.get(i)[what];
    }

    int sum(int what) {
        return latestRules < 0 || what < 0 || what > 11 ? -9 : (int) latest.sums[what];
    }

    int parts(int r, int s) {
        if (r < 0 || r > 3 || s < 0 || s > 3) {
            return -2;
        }
        Played one = new Played(ruleSets.get(r));
        Played other = new Played(ruleSets.get(s));
        for (int i = 0; i < one.told.size(); i++) {
            long[] a = one.told.get(i);
            long[] b = other.told.get(i);
            if (a[2] != b[2] || a[3] != b[3] || !Arrays.equals(one.owedThen.get(i), other.owedThen.get(i))) {
                return i;
            }
        }
        return -1;
    }

    int gains(int r, int s, int m) {
        if (r < 0 || r > 3 || s < 0 || s > 3 || m < 0 || m >= members) {
            return -2000000000;
        }
        long by = new Played(ruleSets.get(r)).people.get(m).purse();
        return (int) (by - new Played(ruleSets.get(s)).people.get(m).purse());
    }

    int count(int what) {
        int[] counts = {members, entries.size(), meetings().size(), tape.length(), latestRules};
        return what < 0 || what > 4 ? -1 : counts[what];
    }

    /** One member, with the loan and the ask that it has, if any. */
    private static final class Person {
        private final long stampPrice;
        private long stamps;
        private long owes;
        private long lent;
        private long paid;
        private long dues;
        private long waited;
        private long refused;
        private boolean gone;
        private long gotGone;
        private long share;
        private long gets;
        private boolean inDefault;
        private long bought;
        private long given;
        private long steps;
        private long today;

        Person(long stampPrice) {
            this.stampPrice = stampPrice;
        }

        int tell(int what) {
            long[] all = {stamps, owes, lent, paid, dues, waited, refused, gone ? 1 : 0, gotGone,
                share, gets, inDefault ? 1 : 0, bought};
            return Math.toIntExact(all[what]);
        }

        long purse() {
            return gets + gotGone + lent - paid - dues - bought * stampPrice;
        }
    }

    /** A whole play. */
    private final class Played {
        private final Map<String, Integer> by;
        private final List<Person> people = new ArrayList<>();
        private final List<long[]> told = new ArrayList<>();
        private final List<long[]> owedThen = new ArrayList<>();
        private final long[] sums = new long[12];
        // In the order in which they asked.
        private final Map<Person, Long> queue = new LinkedHashMap<>();
        private long box;
        private long fund;

        Played(Map<String, Integer> by) {
            this.by = by;
            for (int m = 0; m < members; m++) {
                people.add(new Person(by.get("stamp")));
            }
            for (int at = 0; at < entries.size(); at++) {
                if (entries.get(at)[0] == 0) {
                    hold(at);
                }
            }
            sums[2] = box;
            sums[3] = fund;
            sums[4] = owed();
            part();
        }

        private long owed() {
            return people.stream().mapToLong(p -> p.owes).sum();
        }

        private long stamps() {
            return people.stream().mapToLong(p -> p.stamps).sum();
        }

        private void hold(int at) {
            int week = entries.get(at)[1];
            Set<Person> there = new HashSet<>();
            for (int m = 0; m < members; m++) {
                if ((entries.get(at)[2] & 1 << m) != 0) {
                    there.add(people.get(m));
                }
            }
            List<Integer> keys = keys(week);
            List<Person> holders = keys.stream().filter(k -> k >= 0).map(people::get).toList();
            boolean open = !holders.isEmpty() && there.containsAll(holders);
            if (open) {
                start(week, there);
            }
            for (int e = at + 1; e < entries.size() && entries.get(e)[0] != 0; e++) {
                int[] entry = entries.get(e);
                if (entry[0] == 7) {
                    long taken = Math.min(box, entry[2]);
                    box -= taken;
                    sums[9] += taken;
                } else if (open) {
                    happen(entry[0], people.get(entry[1]), entry[2], there);
                }
            }
            if (open) {
                lend(week);
            }
            sums[open ? 0 : 1]++;
            told.add(new long[] {week, open ? 1 : 0, box, fund, owed(), stamps(), queue.size(),
                keys.get(0), keys.get(1), keys.get(2)});
            owedThen.add(people.stream().mapToLong(p -> p.owes).toArray());
        }

        private List<Integer> keys(int week) {
            Integer[] keys = {-1, -1, -1};
            int first = 3 * (week / by.get("turn"));
            for (int k = 0; k < 3; k++) {
                int m = (first + k) % members;
                keys[k] = people.get(m).gone ? -1 : m;
            }
            for (int k = 0; k < 3; k++) {
                int due = (first + k) % members;
                for (int m = due + 1; keys[k] < 0 && m < due + members; m++) {
                    if (!people.get(m % members).gone && !Arrays.asList(keys).contains(m % members)) {
                        keys[k] = m % members;
                    }
                }
            }
            return Arrays.asList(keys);
        }

        private void start(int week, Set<Person> there) {
            for (Person p : people) {
                p.today = 0;
                if (p.gone) {
                    continue;
                }
                int due = by.get(there.contains(p) ? "social" : "absent");
                p.dues += due;
                if (there.contains(p)) {
                    fund += due;
                } else {
                    box += due;
                }
                if (p.owes == 0) {
                    continue;
                }
                while (by.get("falling") >= 0 && p.steps < (week - p.given) / 4) {
                    long interest = p.owes * by.get("falling") / 100;
                    p.owes += interest;
                    sums[11] += interest;
                    p.steps++;
                }
                if (week - p.given >= by.get("weeks")) {
                    p.dues += by.get("late");
                    box += by.get("late");
                }
            }
        }

        private void happen(int kind, Person p, long n, Set<Person> there) {
            if (p.gone || kind < 5 && !there.contains(p)) {
                return;
            }
            if (kind == 1) {
                long bought = Math.min(by.get("most") - p.today, n);
                p.today += bought;
                p.stamps += bought;
                p.bought += bought;
                box += bought * by.get("stamp");
            } else if (kind == 2) {
                long most = p.stamps * by.get("stamp") * by.get("loan") / 100;
                if (p.owes == 0 && !queue.containsKey(p) && n <= most) {
                    queue.put(p, n);
                } else {
                    p.refused++;
                }
            } else if (kind == 3) {
                long paid = Math.min(n, p.owes);
                p.owes -= paid;
                p.paid += paid;
                box += paid;
            } else if (kind == 4) {
                p.dues += n;
                box += n;
            } else {
                go(p, kind == 5);
            }
        }

        private void go(Person p, boolean died) {
            if (died) {
                long paid = Math.min(fund, by.get("death"));
                fund -= paid;
                sums[10] += paid;
            }
            long worth = p.stamps == 0 ? 0 : (box + owed()) * p.stamps / stamps();
            if (worth >= p.owes) {
                p.gotGone = Math.min(worth - p.owes, box);
                box -= p.gotGone;
            } else {
                sums[7] += p.owes - worth;
            }
            p.gone = true;
            p.owes = 0;
            p.stamps = 0;
            queue.remove(p);
        }

        private void lend(int week) {
            List<Person> line = new ArrayList<>(queue.keySet());
            if (by.get("order") == 1) {
                line.sort(Comparator.comparing(queue::get));
            } else if (by.get("order") == 2) {
                line.sort(Comparator.comparing(p -> -p.stamps));
            }
            for (Person p : line) {
                if (queue.get(p) > box) {
                    p.waited++;
                    continue;
                }
                long sum = queue.remove(p);
                box -= sum;
                p.lent += sum;
                p.given = week;
                p.steps = 0;
                long interest = 0;
                for (int begun = 0; by.get("flat") >= 0 && begun < by.get("weeks"); begun += 4) {
                    interest += sum * by.get("flat") / 100;
                }
                p.owes = sum + interest;
                sums[11] += interest;
            }
        }

        private void part() {
            List<Person> in = new ArrayList<>(people);
            sums[5] = box + owed();
            while (true) {
                long all = in.stream().mapToLong(p -> p.stamps).sum();
                for (Person p : in) {
                    p.share = p.stamps == 0 ? 0 : sums[5] * p.stamps / all;
                }
                Person lowest = in.stream().filter(p -> p.owes > p.share).findFirst().orElse(null);
                if (lowest == null) {
                    break;
                }
                sums[8] += lowest.owes - lowest.share;
                sums[5] -= lowest.owes;
                lowest.inDefault = true;
                lowest.share = 0;
                in.remove(lowest);
            }
            in.forEach(p -> p.gets = p.share - p.owes);
            sums[6] = box - in.stream().mapToLong(p -> p.gets).sum();
        }
    }
}
