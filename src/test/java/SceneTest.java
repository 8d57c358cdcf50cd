import java.util.Map;
import java.util.Random;

/**
 * Random scenes (with fixed seeds) in which the answers that RandomTest seldom meets come often: long PASSES, HANDS that
 * are guarded everywhere, tasks that want several CONTROLS, CONTROLS that open WAYS, and REPORTS of HANDS that changed.
 * Every answer is compared with the Oracle's; how often the rare ones came is looked at, too, so that no scene goes stale.
 */
public final class SceneTest {
    private static final Map<String, Integer> ANSWERS = Pair.noAnswers();

    private final Random random;
    private final Pair pair = new Pair(ANSWERS);

    private SceneTest(long seed) {
        random = new Random(seed);
    }

    public static void main(String[] args) {
        int scenes = args.length > 0 ? Integer.parseInt(args[0]) : 150;
        long from = args.length > 1 ? Long.parseLong(args[1]) : 1;
        int wrong = 0;
        for (long seed = from; seed < from + scenes && wrong == 0; seed++) {
            for (int scene = 0; scene < 5 && wrong == 0; scene++) {
                wrong = new SceneTest(10 * seed + scene).play(scene);
                if (wrong > 0) {
                    System.out.println("seed " + seed + ", scene " + scene);
                }
            }
        }
        wrong += wrong == 0 && scenes >= 150 ? tooSeldom() : 0;
        System.out.println(wrong == 0 ? scenes + " times five scenes are as due" : "the scenes are not as due");
        if (wrong != 0) {
            System.exit(1);
        }
    }

    private int play(int scene) {
        switch (scene) {
            case 0 -> longPasses();
            case 1 -> guardedHands();
            case 2 -> dearControls();
            case 3 -> trickyWays();
            default -> heldHands();
        }
        if (pair.calls() > 512) {
            System.out.println("an object was used for " + pair.calls() + " calls");
            return 1;
        }
        return pair.wrong;
    }

    /** How many of the answers that the scenes are for came too seldom. */
    private static int tooSeldom() {
        int few = 0;
        few += seldom("hops", 3, 9, 100);
        few += seldom("hops", 4, 9, 20);
        few += seldom("least2", 1, 9, 100);
        few += seldom("least2", 2, 9, 30);
        few += seldom("cheapest1", 3, 8000, 40);
        few += seldom("cheapest0", 1, 255, 100);
        few += seldom("opens", 1, 99, 50);
        few += seldom("next", 1, 7, 50);
        few += seldom("right", 1, 1, 100);
        few += seldom("right", 0, 0, 100);
        few += seldom("honest", 1, 1, 100);
        few += seldom("honest", 0, 0, 100);
        few += seldom("record3", 1, 30, 20);
        few += seldom("record4", 1, 30, 20);
        few += seldom("culprits", 3, 511, 100);
        return few;
    }

    private static int seldom(String call, int low, int high, int least) {
        int came = 0;
        for (int answer = low; answer <= high; answer++) {
            came += ANSWERS.getOrDefault(call + " " + answer, 0);
        }
        if (came < least) {
            System.out.println(call + " answered " + low + " to " + high + " only " + came + " times, not " + least);
        }
        return came < least ? 1 : 0;
    }

    private int upTo(int n) {
        return random.nextInt(n + 1);
    }

    private boolean one(int in) {
        return random.nextInt(in) == 0;
    }

    private int seats() {
        return pair.oracle.seats;
    }

    private String side() {
        return random.nextBoolean() ? "left" : "right";
    }

    /** Of those out of the set one watches the MIDDLE and one a SPOT of the ring, but look elsewhere for a while. */
    private void longPasses() {
        pair.room(one(3) ? 5 + upTo(2) : 8 + upTo(1));
        int everybody = (1 << seats()) - 1;
        int warden = upTo(seats() - 1);
        int other = upTo(seats() - 1);
        int closed = upTo(seats() - 1);
        int set = everybody & ~(1 << warden | 1 << other);
        for (int p = 0; p < seats(); p++) {
            pair.attend(p, p == warden ? seats() : p == other ? closed : upTo(seats()), 0, 99);
            for (int i = upTo(4); i > 0; i--) {
                int t = upTo(30);
                pair.attend(p, upTo(seats()), t, t + upTo(6));
            }
        }
        for (int i = upTo(3 * seats()); i > 0; i--) {
            int h = upTo(2 * seats() - 1);
            int held = 2 * ((h / 2 + 1) % seats()) + upTo(1);
            int t = upTo(30);
            pair.hold(h, held, held, t, t + upTo(12));
        }
        for (int i = 0; i < 4; i++) {
            pair.thing((closed + 1 + upTo(i)) % seats());
            pair.report(0, 0, i, upTo(seats() - 1), upTo(9), 10 + upTo(20), 0);
        }
        for (int i = 0; i < 12; i++) {
            int spot = one(2) ? upTo(seats() - 1) : (closed + seats() - 1) % seats();
            askPass(upTo(3), spot, one(4) ? upTo(everybody) : set, upTo(9), 10 + upTo(25));
        }
        for (int reports = 1; reports < 16; reports += 1 + upTo(4)) {
            pair.culprits(reports);
        }
    }

    private void askPass(int thing, int spot, int set, int a, int b) {
        int hops = pair.pass(thing, spot, set, a, b, -1);
        for (int what = 0; what <= 3 * hops; what++) {
            pair.pass(thing, spot, set, a, b, what);
        }
    }

    /** Everybody looks at somebody or holds a hand throughout, and LIGHT is good: no WAY fits. */
    private void guardedHands() {
        pair.room(3 + upTo(3));
        for (int i = 0; i < 5; i++) {
            for (int p = 0; p < seats(); p++) {
                int t = 20 * i + upTo(5);
                int spot = one(5) ? upTo(seats()) : (p + (one(3) ? seats() - 1 : 1)) % seats();
                pair.attend(p, spot, 20 * i, 19 + 20 * i);
                pair.attend(p, upTo(seats()), t, t + upTo(14));
            }
        }
        for (int h = 0; h < 2 * seats(); h++) {
            int other = 2 * ((h / 2 + 1) % seats()) + upTo(1);
            int t = upTo(50);
            pair.hold(h, other, one(3) ? other ^ 1 : other, t, t + upTo(49));
        }
        pair.lead(upTo(seats()), 1 + upTo(8), upTo(40), 41 + upTo(50));
        pair.thing(upTo(seats()));
        pair.thing(seats());
        pair.write(one(2) ? "" : "way a free left move left 2 dark 3; way b swap right free right move right 3;");
        for (int i = 0; i < 30; i++) {
            int a = upTo(95);
            int report = pair.report(upTo(seats() - 1), 0, upTo(1), upTo(seats()), a, a + upTo(4), 0);
            for (int what = 0; what < 3; what++) {
                pair.least(report, what);
            }
            pair.stories(report, one(2), 0);
        }
    }

    /** Few persons (at times but one) have a way left; it takes several CONTROLS of small COST to close all of them. */
    private void dearControls() {
        pair.room(3 + upTo(2));
        pair.thing(upTo(seats()));
        pair.thing(upTo(seats()));
        pair.light(0, 99, upTo(6));
        for (int p = 0; p < seats(); p++) {
            pair.person(p, 3 + upTo(6), upTo(3));
            pair.attend(p, upTo(seats() + 1) - 1, 0, 99);
            pair.attend(p, upTo(seats() + 1) - 1, 10, 10 + upTo(20));
        }
        boolean lone = one(2);
        for (int h = 2; h < 2 * seats() && lone; h++) {
            int other = h < 4 ? h + 2 : h - 2;
            pair.hold(h, other, other, 0, 99);
        }
        for (int h = 0; h < 2 * seats() && !lone; h++) {
            if (one(2)) {
                int other = 2 * ((h / 2 + 1) % seats()) + upTo(1);
                pair.hold(h, other, other, 0, one(2) ? 99 : 12);
            }
        }
        StringBuilder text = new StringBuilder();
        for (int i = 1 + upTo(3); i > 0; i--) {
            String side = side();
            text.append("way ").append((char) ('a' + i)).append(one(4) ? " dark " + upTo(9) : "").append(one(4) ? " away" : "")
                    .append(" free ").append(side).append(" move ").append(side).append(' ').append(1 + upTo(3)).append(';');
        }
        pair.write(text.toString());
        // the later ones are mostly as dear as two of those ahead, so that few and many often cost the same
        for (int i = 0; i < 4 + upTo(3); i++) {
            int kind = upTo(2);
            int from = one(2) ? 0 : upTo(14);
            int what = kind == 0 ? upTo(lone ? 1 : 2 * seats() - 1) : upTo(seats() - 1);
            int v = kind == 1 ? 4 + upTo(5) : upTo(seats());
            pair.control(kind, what, v, from, one(2) ? 99 : from + upTo(14), one(3) ? 1 + upTo(3) : 1 + i / 2);
        }
        askControls();
    }

    private void askControls() {
        int controls = pair.oracle.controls.size();
        for (int i = 0; i < 8; i++) {
            int a = 8 + upTo(8);
            int b = a + upTo(6);
            int thing = upTo(1);
            int spot = upTo(seats());
            pair.cheapest(thing, spot, a, b, 0);
            pair.cheapest(thing, spot, a, b, 1);
            pair.closes(upTo((1 << controls) - 1), thing, spot, a, b);
            for (int control = 0; control < controls; control++) {
                pair.opens(control, thing, spot, a, b);
            }
            int report = pair.report(0, 0, thing, spot, a, b, 0);
            pair.stories(report, false, 0);
            pair.next(report, 1 + upTo(3));
            pair.next(report, 4);
        }
    }

    /** Every kind of STEP, with eyes and hands such that some of them hold and some don't. */
    private void trickyWays() {
        pair.room(3 + upTo(2));
        pair.thing(upTo(seats()));
        for (int p = 0; p < seats(); p++) {
            pair.person(p, 2 + upTo(4), upTo(5));
            for (int i = 0; i < 4; i++) {
                int t = 10 * i;
                pair.attend(p, upTo(seats() + 1) - 1, t, t + upTo(9));
            }
        }
        for (int i = 0; i < 6; i++) {
            int t = upTo(30);
            pair.light(t, t + upTo(9), upTo(6));
        }
        for (int h = 0; h < 2 * seats(); h++) {
            int other = 2 * ((h / 2 + 1) % seats()) + upTo(1);
            int t = upTo(30);
            pair.hold(h, other, one(2) ? upTo(1) + 2 * ((h / 2 + seats() - 1) % seats()) : other, t, t + upTo(20));
        }
        if (one(2)) {
            pair.lead(upTo(seats()), 1 + upTo(4), upTo(20), 20 + upTo(20));
        }
        for (int i = 0; i < 5; i++) {
            int kind = one(2) ? 2 : upTo(2);
            int t = upTo(20);
            pair.control(kind, kind == 0 ? upTo(2 * seats() - 1) : upTo(seats() - 1), kind == 1 ? upTo(9) : upTo(seats()), t,
                    t + upTo(20), 1 + upTo(3));
        }
        int latest = 0;
        for (int i = 0; i < 12; i++) {
            int t = Math.min(99, latest + upTo(6));
            latest = pair.move(upTo(2 * seats() - 1), 0, upTo(seats()), t) >= 0 ? t : latest;
        }
        for (int i = 0; i < 3; i++) {
            pair.write(aText());
            askWays();
        }
    }

    private String aText() {
        StringBuilder text = new StringBuilder();
        for (int i = 0; i < 4; i++) {
            text.append("way ").append((char) ('a' + i));
            for (int k = 1 + upTo(4); k > 0; k--) {
                String number = " " + (1 + upTo(3));
                switch (upTo(8)) {
                    case 0 -> text.append(" free ").append(side());
                    case 1 -> text.append(" dark").append(" ").append(upTo(9));
                    case 2 -> text.append(" away");
                    case 3 -> text.append(" swap ").append(side());
                    case 4 -> text.append(" call ").append(1 + upTo(8));
                    case 5 -> text.append(" ready ").append(side()).append(number);
                    case 6 -> text.append(" wait").append(number);
                    default -> text.append(" move ").append(side()).append(number);
                }
            }
            text.append(";");
        }
        return text.toString();
    }

    private void askWays() {
        for (int i = 0; i < 60; i++) {
            int a = upTo(40);
            int spot = upTo(seats());
            pair.fits(upTo(3), upTo(seats() - 1), one(2) ? 0 : upTo((1 << seats()) - 1), 0, spot, a, a + upTo(20));
            if (one(6)) {
                pair.opens(upTo(4), 0, spot, a, a + upTo(20));
            }
        }
        int report = pair.report(0, 0, 0, upTo(seats()), upTo(20), 20 + upTo(20), 0);
        for (int what = 0; what < 3; what++) {
            pair.stories(report, true, what);
            pair.stories(report, false, what);
        }
        pair.least(report, upTo(2));
        pair.next(report, 3);
    }

    /** Hands that are taken from left to right and back, and reports of them; things moved and seen, or not. */
    private void heldHands() {
        pair.room(3 + upTo(1));
        pair.write("memory " + upTo(3) + " " + upTo(2) + ";");
        for (int i = 0; i < 12; i++) {
            int h = upTo(1);
            int other = 2 + upTo(1);
            int t = upTo(20);
            pair.hold(h, other, one(3) ? other ^ 1 : other, t, t + upTo(12));
        }
        pair.thing(seats());
        for (int p = 0; p < seats(); p++) {
            pair.attend(p, upTo(seats()), 0, 50 + upTo(20));
            pair.attend(p, upTo(seats()), 51, 99);
        }
        for (int i = 0; i < 12; i++) {
            pair.move(upTo(2 * seats() - 1), 0, upTo(seats()), 40 + 4 * i);
        }
        for (int i = 0; i < 30; i++) {
            int a = one(2) ? upTo(30) : 40 + upTo(40);
            if (a <= 30) {
                pair.report(0, 1, 2 + upTo(1), 0, a, a + upTo(9), upTo(3));
            } else {
                pair.report(upTo(2), 0, 0, upTo(seats()), a, a + upTo(9), upTo(3));
            }
            pair.right(i);
            pair.honest(i);
        }
        for (int p = 0; p < 3; p++) {
            for (int what = 0; what < 5; what++) {
                pair.record(p, what);
            }
        }
    }
}
