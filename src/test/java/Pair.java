import java.util.ArrayList;
import java.util.List;
import java.util.Map;
import java.util.TreeMap;

/** A RapTable and an Oracle that are asked the same; each answer is compared, and how often it came is kept. */
final class Pair {
    private static final int SHOWN = 40;

    final RapTable table = new RapTable();
    final Oracle oracle = new Oracle();
    private final List<String> log = new ArrayList<>();
    private final Map<String, Integer> answers;
    int wrong;

    Pair(Map<String, Integer> answers) {
        this.answers = answers;
    }

    static Map<String, Integer> noAnswers() {
        return new TreeMap<>();
    }

    private int due(long got, long want, String call, Object... arguments) {
        StringBuilder told = new StringBuilder(call).append('(');
        for (int i = 0; i < arguments.length; i++) {
            told.append(i > 0 ? ", " : "").append(arguments[i]);
        }
        told.append(") = ").append(got);
        log.add(told.toString());
        answers.merge(call + " " + got, 1, Integer::sum);
        if (got != want) {
            wrong++;
            for (int i = Math.max(0, log.size() - SHOWN); i < log.size() && wrong == 1; i++) {
                System.out.println("  " + log.get(i));
            }
            System.out.println("call " + log.size() + ", " + told + ", due is " + want);
        }
        return (int) want;
    }

    private static int bit(boolean so) {
        return so ? 1 : 0;
    }

    int calls() {
        return log.size();
    }

    void room(int seats) {
        due(bit(table.room(seats)), oracle.room(seats), "room", seats);
    }

    void person(int person, int need, int firm) {
        due(bit(table.person(person, need, firm)), oracle.person(person, need, firm), "person", person, need, firm);
    }

    void light(int from, int to, int v) {
        due(bit(table.light(from, to, v)), oracle.light(from, to, v), "light", from, to, v);
    }

    void attend(int person, int spot, int from, int to) {
        due(bit(table.attend(person, spot, from, to)), oracle.attend(person, spot, from, to), "attend", person, spot, from,
                to);
    }

    void lead(int spot, int pull, int from, int to) {
        due(table.lead(spot, pull, from, to), oracle.lead(spot, pull, from, to), "lead", spot, pull, from, to);
    }

    void hold(int hand, int seems, int truly, int from, int to) {
        due(bit(table.hold(hand, seems, truly, from, to)), oracle.hold(hand, seems, truly, from, to), "hold", hand, seems,
                truly, from, to);
    }

    void thing(int spot) {
        due(table.thing(spot), oracle.thing(spot), "thing", spot);
    }

    int move(int hand, int thing, int spot, int second) {
        return due(table.move(hand, thing, spot, second), oracle.move(hand, thing, spot, second), "move", hand, thing, spot,
                second);
    }

    int write(String text) {
        for (int i = 0; i < text.length(); i += 20) {
            int[] five = new int[5];
            for (int k = 0; k < 20; k++) {
                five[k / 4] = five[k / 4] << 8 | (i + k < text.length() ? text.charAt(i + k) : ' ');
            }
            due(table.feed(five[0], five[1], five[2], five[3], five[4]), oracle.feed(five), "feed", text);
        }
        return due(table.text(text.length()), oracle.text(text.length()), "text", text);
    }

    int fits(int way, int person, int friends, int thing, int spot, int a, int b) {
        return due(table.fits(way, person, friends, thing, spot, a, b), oracle.fits(way, person, friends, thing, spot, a, b),
                "fits", way, person, friends, thing, spot, a, b);
    }

    int report(int person, int kind, int what, int spot, int a, int b, int day) {
        return due(table.report(person, kind, what, spot, a, b, day), oracle.report(person, kind, what, spot, a, b, day),
                "report", person, kind, what, spot, a, b, day);
    }

    void right(int report) {
        due(table.right(report), oracle.right(report), "right", report);
    }

    void honest(int report) {
        due(table.honest(report), oracle.honest(report), "honest", report);
    }

    void stories(int report, boolean friend, int what) {
        due(table.stories(report, friend, what), oracle.stories(report, friend, what), "stories" + friend + what, report);
    }

    void least(int report, int what) {
        due(table.least(report, what), oracle.least(report, what), "least" + what, report);
    }

    int pass(int thing, int spot, int persons, int a, int b, int what) {
        return due(table.pass(thing, spot, persons, a, b, what), oracle.pass(thing, spot, persons, a, b, what),
                what == -1 ? "hops" : "pass", thing, spot, persons, a, b, what);
    }

    void culprits(int reports) {
        due(table.culprits(reports), oracle.culprits(reports), "culprits", reports);
    }

    void record(int person, int what) {
        due(table.record(person, what), oracle.record(person, what), "record" + what, person);
    }

    void control(int kind, int what, int v, int from, int to, int cost) {
        due(table.control(kind, what, v, from, to, cost), oracle.control(kind, what, v, from, to, cost), "control", kind,
                what, v, from, to, cost);
    }

    void closes(int set, int thing, int spot, int a, int b) {
        due(table.closes(set, thing, spot, a, b), oracle.closes(set, thing, spot, a, b), "closes", set, thing, spot, a, b);
    }

    void cheapest(int thing, int spot, int a, int b, int what) {
        due(table.cheapest(thing, spot, a, b, what), oracle.cheapest(thing, spot, a, b, what), "cheapest" + what, thing,
                spot, a, b);
    }

    void opens(int control, int thing, int spot, int a, int b) {
        due(table.opens(control, thing, spot, a, b), oracle.opens(control, thing, spot, a, b), "opens", control, thing,
                spot, a, b);
    }

    void next(int report, int cost) {
        due(table.next(report, cost), oracle.next(report, cost), "next", report, cost);
    }
}
