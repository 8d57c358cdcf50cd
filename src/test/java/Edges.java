import java.util.ArrayList;
import java.util.Arrays;
import java.util.HashMap;
import java.util.List;
import java.util.Map;

/**
 * What the tests of the edges share. A scene is set on a new object for every check, so that each sentence has a test of
 * its own; a refused call must change nothing that an object tells, and each object is used for at most 512 calls.
 */
final class Edges {
    static final int NONE = RapTable.NONE;
    static final int MAX = Integer.MAX_VALUE;
    static final int MIN = Integer.MIN_VALUE;

    private static final int CALLS = 512;
    private static final int REASONS = 5;

    interface Call {
        long on(RapTable x);
    }

    interface Scene {
        void set(RapTable x);
    }

    private final Map<Scene, long[]> told = new HashMap<>();
    private Scene scene = x -> { };
    private int promise;
    private String sentence = "";
    private int checks;
    private int wrong;

    /** The checks that follow are of this promise, on new objects with this scene. */
    void promise(int number, Scene newScene) {
        promise = number;
        sentence = "";
        scene = newScene;
    }

    void scene(Scene newScene) {
        scene = newScene;
    }

    /** The sentence of the document that the checks that follow would find broken. */
    void says(String words) {
        sentence = words;
    }

    private void wrong(String what) {
        wrong++;
        int line = 0;
        for (StackTraceElement each : new Throwable().getStackTrace()) {
            if (line == 0 && each.getClassName().endsWith("Test")) {
                line = each.getLineNumber();
            }
        }
        System.out.println("promise " + promise + ", line " + line + ", \"" + sentence + "\": " + what);
    }

    void equal(long want, long got, String what) {
        checks++;
        if (want != got) {
            wrong(what + " is " + got + ", due is " + want);
        }
    }

    private static RapTable at(Scene scene) {
        RapTable x = new RapTable();
        scene.set(x);
        return x;
    }

    /** The call is taken, and no count of STATUS goes up. */
    void taken(long want, Call call) {
        RapTable x = at(scene);
        long[] before = status(x);
        equal(want, call.on(x), "the answer");
        rises(0, before, status(x));
    }

    /** As taken, and then the question has that answer. */
    void leaves(Call call, long want, Call question) {
        RapTable x = at(scene);
        call.on(x);
        equal(want, question.on(x), "what the call leaves");
    }

    /** The call answers NONE, one count goes up (none for reason 0), and nothing else has changed. */
    void refused(int reason, Call call) {
        idle(NONE, reason, call);
    }

    /** As refused, for calls that answer false. */
    void denied(int reason, Call call) {
        idle(0, reason, call);
    }

    /** A question: no count goes up, and nothing has changed. */
    void asked(long want, Call call) {
        idle(want, 0, call);
    }

    private void idle(long want, int reason, Call call) {
        RapTable x = at(scene);
        long[] before = status(x);
        equal(want, call.on(x), "the answer");
        rises(reason, before, status(x));
        Scene first = scene;
        long[] due = told.computeIfAbsent(first, Edges::all);
        same(due, all(y -> {
            first.set(y);
            call.on(y);
        }));
    }

    private void same(long[] due, long[] now) {
        checks++;
        if (due.length != now.length) {
            wrong("something else has changed: how much is told");
            return;
        }
        int other = Arrays.mismatch(due, now);
        if (other >= 0) {
            wrong("something else has changed: " + other + " was " + due[other] + ", is " + now[other]);
        }
    }

    /** Both scenes leave objects that tell the same, STATUS aside. */
    void alike(Scene one, Scene other) {
        same(all(one), all(other));
    }

    private void rises(int reason, long[] before, long[] after) {
        for (int i = 1; i <= REASONS; i++) {
            equal(before[i] + (i == reason ? 1 : 0), after[i], "status(" + i + ")");
        }
    }

    private static long[] status(RapTable x) {
        long[] all = new long[REASONS + 1];
        for (int i = 1; i <= REASONS; i++) {
            all[i] = x.status(i);
        }
        return all;
    }

    void end() {
        System.out.println(wrong == 0 ? checks + " checks of edges are as due" : wrong + " checks of edges are not as due");
        if (wrong != 0) {
            System.exit(1);
        }
    }

    static int bit(boolean so) {
        return so ? 1 : 0;
    }

    static void feed(RapTable x, String text) {
        for (int i = 0; i < text.length(); i += 20) {
            int[] five = new int[5];
            for (int k = 0; k < 20; k++) {
                five[k / 4] = five[k / 4] << 8 | (i + k < text.length() ? text.charAt(i + k) : ' ');
            }
            x.feed(five[0], five[1], five[2], five[3], five[4]);
        }
    }

    static int tell(RapTable x, String text) {
        feed(x, text);
        return x.text(text.length());
    }

    /** A sitting of five in which there is some of everything. */
    static void sitting(RapTable x) {
        x.room(5);
        x.person(0, 3, 4);
        x.person(1, 6, 2);
        x.light(20, 39, 4);
        x.light(41, 41, 0);
        x.attend(1, 0, 0, 59);
        x.attend(2, 5, 10, 49);
        x.attend(3, 2, 0, 99);
        x.lead(4, 3, 30, 34);
        x.hold(2, 0, 0, 5, 9);
        x.hold(4, 3, 8, 5, 50);
        x.thing(0);
        x.thing(3);
        x.move(1, 0, 5, 12);
        x.image(1);
        x.move(7, 1, 5, 40);
        tell(x, "way a free left move left 2;way b dark 5 wait 3;memory 1 2;");
        feed(x, "way c wait 7;");
        x.report(1, 0, 0, 5, 10, 15, 2);
        x.report(1, 1, 0, 0, 5, 9, 1);
        x.report(2, 0, 1, 5, 38, 45, 0);
        x.control(0, 1, 0, 0, 99, 30);
        x.control(1, 0, 6, 20, 45, 20);
        x.control(2, 4, 0, 0, 50, 10);
        x.trial(4, 1);
        x.trial(3, 2);
    }

    // ---- all that an object tells, STATUS aside

    private static long[] all(Scene run) {
        RapTable x = at(run);
        int seats = x.count(0);
        List<Call> room = new ArrayList<>();
        ofRoom(room, seats, x.count(2), x.count(3));
        List<Call> rest = new ArrayList<>();
        ofWays(rest, seats, Math.min(x.count(4), 4), Math.min(x.count(2), 2));
        ofReports(rest, seats, Math.min(x.count(7), 30));
        ofControls(rest, x.count(8), seats, Math.min(x.count(2), 2));
        ofLuck(rest);
        List<Long> into = new ArrayList<>();
        ask(run, room, into);
        ask(run, rest, into);
        ask(run, ofTape(), into);
        for (int person = 0; person < seats; person++) {
            ask(run, ofPerson(person, seats), into);
        }
        for (int i = 0; i < 3; i++) {
            ofImage(run, i, into);
        }
        return into.stream().mapToLong(Long::longValue).toArray();
    }

    private static void ask(Scene run, List<Call> calls, List<Long> into) {
        int each = CALLS / 2;
        for (int from = 0; from < calls.size(); from += each) {
            RapTable x = at(run);
            for (Call call : calls.subList(from, Math.min(from + each, calls.size()))) {
                into.add(call.on(x));
            }
        }
    }

    private static void ofRoom(List<Call> calls, int seats, int things, int moves) {
        for (int i = 0; i <= 10; i++) {
            int what = i;
            calls.add(x -> x.count(what));
        }
        calls.add(x -> x.fault(0));
        calls.add(x -> x.fault(1));
        for (int i = 0; i < 100; i++) {
            int second = i;
            calls.add(x -> x.at(0, 0, second));
            for (int k = 0; k < 2 * seats; k++) {
                int which = k;
                calls.add(x -> x.at(which < seats ? 1 : 2, which, second));
                calls.add(x -> x.at(3, which, second));
                calls.add(x -> x.at(4, which, second));
            }
        }
        for (int i = 0; i < things; i++) {
            int thing = i;
            for (int k = -1; k < 100; k++) {
                int second = k;
                calls.add(x -> x.where(thing, second));
            }
        }
        for (int i = 0; i < moves; i++) {
            int move = i;
            for (int k = 0; k < seats; k++) {
                int person = k;
                calls.add(x -> x.saw(move, person));
            }
        }
    }

    private static void ofWays(List<Call> calls, int seats, int ways, int things) {
        for (int i = 0; i < 8; i++) {
            int way = i;
            calls.add(x -> x.way(way, 0));
            calls.add(x -> x.way(way, 1));
        }
        for (int i = 0; i < ways * seats * things; i++) {
            int way = i % ways;
            int person = i / ways % seats;
            int thing = i / ways / seats;
            calls.add(x -> x.fits(way, person, 0, thing, seats, 0, 99));
            calls.add(x -> x.fits(way, person, 6, thing, 1, 20, 50));
        }
    }

    private static void ofReports(List<Call> calls, int seats, int reports) {
        for (int i = 0; i < reports; i++) {
            int report = i;
            calls.add(x -> x.right(report));
            calls.add(x -> x.honest(report));
            calls.add(x -> x.agree(report, 0));
            calls.add(x -> x.culprits(1 << report));
            calls.add(x -> x.next(report, 25));
            for (int k = 0; k < 3; k++) {
                int what = k;
                calls.add(x -> x.stories(report, false, what));
                calls.add(x -> x.stories(report, true, what));
                calls.add(x -> x.least(report, what));
            }
        }
        for (int i = 0; i < 5 * seats; i++) {
            int person = i / 5;
            int what = i % 5;
            calls.add(x -> x.record(person, what));
        }
    }

    private static void ofControls(List<Call> calls, int controls, int seats, int things) {
        for (int i = 0; i < things; i++) {
            int thing = i;
            calls.add(x -> x.cheapest(thing, seats, 0, 60, 0));
            calls.add(x -> x.cheapest(thing, 1, 30, 99, 1));
            for (int k = 0; k < controls; k++) {
                int control = k;
                calls.add(x -> x.closes(1 << control, thing, seats, 0, 60));
                calls.add(x -> x.opens(control, thing, 1, 0, 99));
            }
        }
    }

    private static void ofLuck(List<Call> calls) {
        for (int i = -1; i < 10; i++) {
            int hits = i;
            calls.add(x -> x.luck(hits));
            calls.add(x -> x.chance(hits, 2));
        }
    }

    private static List<Call> ofTape() {
        List<Call> calls = new ArrayList<>();
        calls.add(x -> x.text(x.count(10)));
        calls.add(x -> x.fault(0));
        calls.add(x -> x.fault(1));
        for (int i = 4; i <= 6; i++) {
            int what = i;
            calls.add(x -> x.count(what));
        }
        for (int i = 0; i < 8; i++) {
            int way = i;
            calls.add(x -> x.way(way, 0));
            calls.add(x -> x.way(way, 1));
        }
        return calls;
    }

    // NEED by the least LIGHT in which the PERSON sees, FIRM by the least PULL that leads it.
    private static List<Call> ofPerson(int person, int seats) {
        List<Call> calls = new ArrayList<>();
        int other = person == 0 ? 1 : 0;
        calls.add(x -> bit(x.attend(person, other, 0, 9)));
        for (int i = 0; i < 10; i++) {
            int v = i;
            calls.add(x -> bit(x.light(v, v, v)));
            calls.add(x -> x.vouch(2 * other, v, true) >> person & 1);
        }
        for (int i = 1; i < 10; i++) {
            int pull = i;
            calls.add(x -> x.lead(seats, pull, 90 + pull, 90 + pull));
            calls.add(x -> x.at(5, person, 90 + pull));
        }
        return calls;
    }

    private static void ofImage(Scene run, int i, List<Long> into) {
        Scene restored = x -> {
            run.set(x);
            x.restore(i);
        };
        RapTable x = at(run);
        boolean there = x.restore(i);
        into.add((long) bit(there));
        if (there) {
            List<Call> calls = new ArrayList<>();
            ofRoom(calls, x.count(0), x.count(2), x.count(3));
            ask(restored, calls, into);
        }
    }
}
