import java.util.ArrayList;
import java.util.List;
import java.util.Random;

/** Random runs of calls, of which every answer is compared with that of the Oracle. The seeds are fixed. */
public final class RandomTest {
    private static final String[] NAMES = {"a", "b", "knock", "slip", "tabletop", "way", "wayy", "left", "abcdefghi"};
    private static final String[] STEPS = {"free", "move", "wait", "dark", "away", "swap", "call", "ready"};

    private final Random random;
    private final RapTable table = new RapTable();
    private final Oracle oracle = new Oracle();
    private final List<String> log = new ArrayList<>();
    private int wrong;

    private RandomTest(long seed) {
        random = new Random(seed);
    }

    public static void main(String[] args) {
        int runs = args.length > 0 ? Integer.parseInt(args[0]) : 700;
        long from = args.length > 1 ? Long.parseLong(args[1]) : 1;
        int wrong = 0;
        for (long seed = from; seed < from + runs && wrong < 5; seed++) {
            wrong += new RandomTest(seed).run(seed);
        }
        System.out.println(wrong == 0 ? runs + " random runs are as due" : wrong + " random answers are not as due");
        if (wrong != 0) {
            System.exit(1);
        }
    }

    private void due(String call, long got, long want) {
        log.add(call + " = " + got);
        if (got != want) {
            wrong++;
            System.out.println(call + " answered " + got + ", due is " + want);
        }
    }

    private int run(long seed) {
        int calls = 60 + random.nextInt(380);
        seat();
        int style = random.nextInt(4);
        if (style > 1) {
            setTable();
        }
        // an object is used for at most 512 calls
        for (int i = 0; i < calls && log.size() < 480 && wrong == 0; i++) {
            int kind = random.nextInt(100);
            int early = i * 3 < calls || style == 0 ? 50 : 15;
            if (kind < early) {
                tell();
            } else if (kind < early + 4) {
                write();
            } else if (kind < early + 5 && random.nextInt(6) == 0) {
                seat();
            } else {
                ask();
            }
        }
        if (wrong > 0) {
            System.out.println("seed " + seed + ", behind " + log.size() + " calls");
            for (int i = Math.max(0, log.size() - 12); i < log.size(); i++) {
                System.out.println("  " + log.get(i));
            }
        }
        return wrong;
    }

    private int upTo(int n) {
        return random.nextInt(n + 1);
    }

    private boolean rarely() {
        return random.nextInt(40) == 0;
    }

    private int odd() {
        int[] all = {-1, -2, 100, 99, 10, 31, 1000, Integer.MAX_VALUE, Integer.MIN_VALUE};
        return all[random.nextInt(all.length)];
    }

    private int pick(int count) {
        return rarely() ? odd() : rarely() ? count : upTo(Math.max(count - 1, 0));
    }

    private int aPerson() {
        return pick(oracle.seats);
    }

    private int aHand() {
        return pick(2 * oracle.seats);
    }

    private int aSpot() {
        return pick(oracle.seats + 1);
    }

    private int aThing() {
        return pick(oracle.s.things.size());
    }

    private int aDegree() {
        return rarely() ? odd() : upTo(9);
    }

    private int aReport() {
        return pick(oracle.reports.size());
    }

    private int aControl() {
        return pick(oracle.controls.size());
    }

    private int aSet(int of) {
        return rarely() ? odd() : rarely() ? 1 << of : upTo((1 << of) - 1);
    }

    private int[] aSpan() {
        if (rarely()) {
            return new int[] {odd(), odd()};
        }
        if (rarely()) {
            return new int[] {upTo(99), upTo(99)};
        }
        int length = random.nextInt(3) == 0 ? upTo(99) : random.nextInt(3) == 0 ? 99 : upTo(12);
        int from = random.nextInt(4) == 0 ? 0 : random.nextInt(6) == 0 ? 99 - length : upTo(99 - length);
        return new int[] {from, from + length};
    }

    /** Things, a text and watchers throughout, so that most questions are of something. */
    private void setTable() {
        for (int i = 0; i < 3; i++) {
            int spot = upTo(oracle.seats);
            due("thing(" + spot + ")", table.thing(spot), oracle.thing(spot));
        }
        for (int i = 0; i < 20 && oracle.ways.size() < 2; i++) {
            write();
        }
        for (int p = 0; p < oracle.seats; p++) {
            int spot = upTo(oracle.seats + 1) - 1;
            due("attend(" + p + ", " + spot + ", 0, 99)", table.attend(p, spot, 0, 99) ? 1 : 0,
                    oracle.attend(p, spot, 0, 99));
            int need = 3 + upTo(4);
            int firm = upTo(6);
            due("person(" + p + ", " + need + ", " + firm + ")", table.person(p, need, firm) ? 1 : 0,
                    oracle.person(p, need, firm));
            if (random.nextInt(3) == 0) {
                tellHold(0, 99, "0, 99)");
            }
        }
        for (int i = upTo(5); i > 0; i--) {
            int[] s = random.nextBoolean() ? aSpan() : new int[] {0, 99};
            tellControl(s[0], s[1]);
        }
    }

    private void seat() {
        int n = rarely() ? odd() : 3 + (random.nextInt(3) == 0 ? upTo(6) : upTo(2));
        due("room(" + n + ")", table.room(n) ? 1 : 0, oracle.room(n));
    }

    private void tell() {
        int[] s = aSpan();
        int a = s[0];
        int b = s[1];
        String in = a + ", " + b + ")";
        switch (random.nextInt(13)) {
            case 0 -> {
                int p = aPerson();
                int need = aDegree();
                int firm = aDegree();
                due("person(" + p + ", " + need + ", " + firm + ")", table.person(p, need, firm) ? 1 : 0,
                        oracle.person(p, need, firm));
            }
            case 1 -> {
                int v = aDegree();
                due("light(" + a + ", " + b + ", " + v + ")", table.light(a, b, v) ? 1 : 0, oracle.light(a, b, v));
            }
            case 2, 3 -> {
                int p = aPerson();
                int x = random.nextInt(5) == 0 ? -1 : aSpot();
                due("attend(" + p + ", " + x + ", " + in, table.attend(p, x, a, b) ? 1 : 0, oracle.attend(p, x, a, b));
            }
            case 4 -> {
                int x = aSpot();
                int pull = aDegree();
                due("lead(" + x + ", " + pull + ", " + in, table.lead(x, pull, a, b), oracle.lead(x, pull, a, b));
            }
            case 5, 6 -> tellHold(a, b, in);
            case 7 -> {
                int x = aSpot();
                due("thing(" + x + ")", table.thing(x), oracle.thing(x));
            }
            case 8 -> tellMove();
            case 9 -> {
                int i = rarely() ? odd() : upTo(2);
                if (random.nextInt(3) != 0) {
                    due("image(" + i + ")", table.image(i) ? 1 : 0, oracle.image(i));
                } else {
                    due("restore(" + i + ")", table.restore(i) ? 1 : 0, oracle.restore(i));
                }
            }
            case 10 -> tellReport(a, b);
            case 11 -> tellControl(a, b);
            default -> {
                int n = rarely() ? odd() : 2 + upTo(18);
                int h = rarely() ? odd() : n < 2 ? 1 : 1 + upTo(n - 1);
                due("trial(" + n + ", " + h + ")", table.trial(n, h), oracle.trial(n, h));
            }
        }
    }

    private void tellHold(int a, int b, String in) {
        int h = aHand();
        int x = h / 2;
        int near = 2 * ((x + (random.nextBoolean() ? 1 : oracle.seats - 1)) % oracle.seats) + upTo(1);
        int seems = rarely() ? aHand() : near;
        int truly = random.nextInt(3) == 0 ? aHand() : random.nextBoolean() ? near ^ 1 : near;
        if (random.nextInt(5) == 0) {
            seems = -1;
            truly = rarely() ? 0 : -1;
        }
        due("hold(" + h + ", " + seems + ", " + truly + ", " + in, table.hold(h, seems, truly, a, b) ? 1 : 0,
                oracle.hold(h, seems, truly, a, b));
    }

    private void tellMove() {
        int h = aHand();
        int x = aThing();
        int spot = aSpot();
        int latest = oracle.s.moves.isEmpty() ? 0 : oracle.s.moves.get(oracle.s.moves.size() - 1).second();
        int t = rarely() ? odd() : rarely() ? upTo(99) : Math.min(99, latest + upTo(4));
        due("move(" + h + ", " + x + ", " + spot + ", " + t + ")", table.move(h, x, spot, t), oracle.move(h, x, spot, t));
    }

    private void tellReport(int a, int b) {
        int p = aPerson();
        int kind = rarely() ? odd() : upTo(1);
        int what = kind == 1 ? aHand() : aThing();
        int spot = kind == 1 ? odd() : aSpot();
        int day = rarely() ? odd() : upTo(random.nextBoolean() ? 3 : 30);
        if (kind == 0 && !oracle.s.moves.isEmpty() && random.nextInt(3) != 0) {
            Oracle.Move m = oracle.s.moves.get(random.nextInt(oracle.s.moves.size()));
            what = m.thing();
            spot = m.to();
        }
        due("report(" + p + ", " + kind + ", " + what + ", " + spot + ", " + a + ", " + b + ", " + day + ")",
                table.report(p, kind, what, spot, a, b, day), oracle.report(p, kind, what, spot, a, b, day));
    }

    private void tellControl(int a, int b) {
        if (oracle.controls.size() >= 5 && random.nextInt(6) != 0) {
            return;
        }
        int kind = rarely() ? odd() : upTo(2);
        int what = kind == 0 ? aHand() : kind == 2 ? aPerson() : odd();
        int v = kind == 1 ? aDegree() : kind == 2 ? aSpot() : odd();
        int cost = rarely() ? odd() : 1 + upTo(random.nextBoolean() ? 4 : 1000);
        due("control(" + kind + ", " + what + ", " + v + ", " + a + ", " + b + ", " + cost + ")",
                table.control(kind, what, v, a, b, cost), oracle.control(kind, what, v, a, b, cost));
    }

    private String blank() {
        return random.nextInt(6) == 0 ? "\n" : random.nextInt(6) == 0 ? "  " : " ";
    }

    private String aNumber() {
        return rarely() && rarely() ? "" + odd() : rarely() ? "0" + upTo(99) : rarely() ? "" + upTo(21) : "" + (1 + upTo(8));
    }

    private String aStep() {
        String word = STEPS[random.nextInt(STEPS.length)];
        String side = random.nextBoolean() ? "left" : "right";
        return switch (word) {
            case "free", "swap" -> word + blank() + side;
            case "move", "ready" -> word + blank() + side + blank() + Math.max(1, upTo(random.nextBoolean() ? 3 : 20));
            case "away" -> word;
            default -> word + blank() + aNumber();
        };
    }

    private String aText() {
        StringBuilder text = new StringBuilder();
        int lines = random.nextInt(8) == 0 ? upTo(10) : 1 + upTo(4);
        for (int i = 0; i < lines; i++) {
            if (random.nextInt(6) == 0) {
                text.append("memory ").append(aNumber()).append(blank()).append(aNumber());
            } else {
                text.append("way ").append(random.nextInt(12) == 0 ? NAMES[random.nextInt(NAMES.length)]
                        : "" + (char) ('a' + i) + (char) ('a' + upTo(25)));
                int steps = random.nextInt(20) == 0 ? upTo(10) : upTo(4);
                for (int k = 0; k < steps; k++) {
                    text.append(blank()).append(aStep());
                }
            }
            text.append(random.nextInt(3) == 0 ? " ;" : ";").append(random.nextInt(3) == 0 ? "\n" : "");
        }
        if (random.nextInt(8) == 0 && text.length() > 0) {
            String signs = ";;a9 \n#\u00e9Az0";
            text.setCharAt(random.nextInt(text.length()), signs.charAt(random.nextInt(signs.length())));
        }
        return text.toString();
    }

    private void write() {
        String text = aText();
        if (text.length() > 380) {
            text = text.substring(0, 380);
        }
        for (int i = 0; i < text.length(); i += 20) {
            int[] five = new int[5];
            for (int k = 0; k < 20; k++) {
                five[k / 4] = five[k / 4] << 8 | (i + k < text.length() ? text.charAt(i + k) : ' ');
            }
            due("feed", table.feed(five[0], five[1], five[2], five[3], five[4]), oracle.feed(five));
        }
        if (random.nextInt(8) != 0) {
            int n = rarely() ? odd() : random.nextInt(10) == 0 ? upTo(text.length()) : oracle.tape.size();
            due("text(" + n + ") of <" + text + ">", table.text(n), oracle.text(n));
        }
        due("fault(0)", table.fault(0), oracle.fault(0));
        due("fault(1)", table.fault(1), oracle.fault(1));
    }

    private void ask() {
        int[] s = aSpan();
        int a = s[0];
        int b = s[1];
        int t = rarely() ? odd() : upTo(99);
        int thing = aThing();
        int spot = aSpot();
        String task = thing + ", " + spot + ", " + a + ", " + b;
        int what = rarely() ? odd() : upTo(5);
        switch (random.nextInt(26)) {
            case 0 -> due("where(" + thing + ", " + t + ")", table.where(thing, t), oracle.where(thing, t));
            case 1 -> {
                int m = pick(oracle.s.moves.size());
                int p = aPerson();
                due("saw(" + m + ", " + p + ")", table.saw(m, p), oracle.saw(m, p));
            }
            case 2 -> {
                int which = rarely() ? odd() : what == 1 || what == 5 ? aPerson() : aHand();
                due("at(" + what + ", " + which + ", " + t + ")", table.at(what, which, t), oracle.at(what, which, t));
            }
            case 3 -> {
                int h = aHand();
                boolean truly = random.nextBoolean();
                due("vouch(" + h + ", " + t + ", " + truly + ")", table.vouch(h, t, truly), oracle.vouch(h, t, truly));
            }
            case 4 -> {
                int h = aHand();
                boolean truly = random.nextBoolean();
                due("gap(" + h + ", " + truly + ", " + what + ")", table.gap(h, truly, what), oracle.gap(h, truly, what));
            }
            case 5 -> {
                int w = pick(oracle.ways.size());
                due("way(" + w + ", " + what + ")", table.way(w, what), oracle.way(w, what));
            }
            case 6, 7, 8, 9 -> askFits(thing, spot, a, b, task);
            case 10 -> askReport();
            case 11, 12 -> {
                int r = aReport();
                boolean friend = random.nextBoolean();
                due("stories(" + r + ", " + friend + ", " + what + ")", table.stories(r, friend, what),
                        oracle.stories(r, friend, what));
            }
            case 13 -> {
                int r = aReport();
                due("least(" + r + ", " + what + ")", table.least(r, what), oracle.least(r, what));
            }
            case 14, 15 -> askPass(thing, spot, a, b);
            case 16 -> askCulprits();
            case 17 -> {
                int p = aPerson();
                due("record(" + p + ", " + what + ")", table.record(p, what), oracle.record(p, what));
            }
            case 18 -> {
                int set = aSet(oracle.controls.size());
                due("closes(" + set + ", " + task + ")", table.closes(set, thing, spot, a, b),
                        oracle.closes(set, thing, spot, a, b));
            }
            case 19 -> {
                int w = rarely() ? odd() : upTo(1);
                due("cheapest(" + task + ", " + w + ")", table.cheapest(thing, spot, a, b, w),
                        oracle.cheapest(thing, spot, a, b, w));
            }
            case 20 -> {
                int c = aControl();
                due("opens(" + c + ", " + task + ")", table.opens(c, thing, spot, a, b),
                        oracle.opens(c, thing, spot, a, b));
            }
            case 21 -> {
                int r = aReport();
                int cost = rarely() ? odd() : upTo(random.nextBoolean() ? 5 : 1000);
                due("next(" + r + ", " + cost + ")", table.next(r, cost), oracle.next(r, cost));
            }
            case 22 -> askLuck();
            case 23 -> askEase();
            case 24 -> {
                int set = aSet(oracle.controls.size());
                int h = rarely() ? odd() : upTo(oracle.trials.size() + 1);
                int limit = rarely() ? odd() : upTo(1000000);
                due("fair(" + set + ", " + h + ", " + limit + ", " + task + ")",
                        table.fair(set, h, limit, thing, spot, a, b), oracle.fair(set, h, limit, thing, spot, a, b));
            }
            default -> {
                int c = rarely() ? odd() : upTo(11);
                due("count(" + c + ")", table.count(c), oracle.count(c));
                int r = rarely() ? odd() : upTo(6);
                due("status(" + r + ")", table.status(r), oracle.status(r));
            }
        }
    }

    private void askFits(int thing, int spot, int a, int b, String task) {
        int w = pick(oracle.ways.size());
        int p = aPerson();
        int friends = random.nextBoolean() ? 0 : aSet(oracle.seats);
        due("fits(" + w + ", " + p + ", " + friends + ", " + task + ")", table.fits(w, p, friends, thing, spot, a, b),
                oracle.fits(w, p, friends, thing, spot, a, b));
    }

    private void askReport() {
        int r = aReport();
        int q = aReport();
        due("right(" + r + ")", table.right(r), oracle.right(r));
        due("honest(" + r + ")", table.honest(r), oracle.honest(r));
        due("agree(" + r + ", " + q + ")", table.agree(r, q), oracle.agree(r, q));
    }

    private void askPass(int thing, int spot, int a, int b) {
        int set = aSet(oracle.seats);
        int end = Math.min(b, a < 0 || a > 80 ? b : a + 15);
        for (int what = -1; what <= 6; what++) {
            due("pass(" + thing + ", " + spot + ", " + set + ", " + a + ", " + end + ", " + what + ")",
                    table.pass(thing, spot, set, a, end, what), oracle.pass(thing, spot, set, a, end, what));
        }
    }

    private void askCulprits() {
        int set = 0;
        for (int i = 0; i < oracle.reports.size(); i++) {
            set |= (oracle.reports.get(i).kind() == 0 || rarely()) && random.nextInt(4) == 0 ? 1 << i : 0;
        }
        set = rarely() ? odd() : set;
        due("culprits(" + set + ")", table.culprits(set), oracle.culprits(set));
    }

    private void askLuck() {
        int h = rarely() ? odd() : upTo(oracle.trials.size() + 2) - 1;
        int r = rarely() ? odd() : random.nextBoolean() ? 1 : 1 + upTo(99);
        due("luck(" + h + ")", table.luck(h), oracle.luck(h));
        due("chance(" + h + ", " + r + ")", table.chance(h, r), oracle.chance(h, r));
    }

    private void askEase() {
        int set = aSet(oracle.seats);
        int i = rarely() ? odd() : random.nextInt(4) == 0 ? -1 : upTo(oracle.seats * 6);
        due("ease(" + set + ", " + i + ")", table.ease(set, i), oracle.ease(set, i));
    }
}
