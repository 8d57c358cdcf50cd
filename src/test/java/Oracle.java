import java.math.BigInteger;
import java.util.ArrayList;
import java.util.Arrays;
import java.util.HashMap;
import java.util.List;
import java.util.Map;
import java.util.TreeSet;

/**
 * The document said once more, as slowly and plainly as it can be, to be compared with the class in random runs.
 * It shares no code and no way of reckoning with the class: it asks each question anew of the rows that were told.
 */
final class Oracle {
    record Lead(int spot, int pull, int from, int to) { }
    record Move(int hand, int thing, int from, int to, int second) { }
    record Hold(int seems, int truly) { }
    record Control(int kind, int what, int v, int from, int to, int cost) { }
    record Report(int person, int kind, int what, int spot, int a, int b, int day) { }
    record Trial(int answers, int hits) { }
    record Step(String word, int side, int n) { }
    record Way(String name, List<Step> steps) {
        int time() {
            return steps.stream().filter(s -> s.word.equals("wait") || s.word.equals("move")).mapToInt(Step::n).sum();
        }
    }

    static final class State implements Cloneable {
        int[] light = new int[100];
        int[] need = new int[9];
        int[] firm = new int[9];
        int[][] eyes = new int[9][100];
        Hold[][] holds = new Hold[18][100];
        List<Lead> leads = new ArrayList<>();
        List<Integer> things = new ArrayList<>();
        List<Move> moves = new ArrayList<>();

        State() {
            Arrays.fill(light, 9);
            Arrays.fill(need, 5);
            for (int[] row : eyes) {
                Arrays.fill(row, -1);
            }
        }

        State copy() {
            State c = new State();
            c.light = light.clone();
            c.need = need.clone();
            c.firm = firm.clone();
            for (int i = 0; i < 9; i++) {
                c.eyes[i] = eyes[i].clone();
            }
            for (int i = 0; i < 18; i++) {
                c.holds[i] = holds[i].clone();
            }
            c.leads = new ArrayList<>(leads);
            c.things = new ArrayList<>(things);
            c.moves = new ArrayList<>(moves);
            return c;
        }
    }

    int seats = 3;
    State s = new State();
    State[] images = new State[3];
    List<Integer> tape = new ArrayList<>();
    List<Way> ways = new ArrayList<>();
    int loss;
    int smooth;
    int fault;
    int faultPlace = -1;
    List<Report> reports = new ArrayList<>();
    List<Control> controls = new ArrayList<>();
    List<Trial> trials = new ArrayList<>();
    int[] status = new int[6];
    int force;

    int no(int reason) {
        status[reason]++;
        return -1;
    }

    boolean isPerson(int p) {
        return 0 <= p && p < seats;
    }

    boolean isHand(int h) {
        return 0 <= h && h <= 2 * seats - 1;
    }

    boolean isSpot(int x) {
        return 0 <= x && x <= seats;
    }

    boolean isThing(int t) {
        return 0 <= t && t < s.things.size();
    }

    boolean isSecond(int t) {
        return 0 <= t && t <= 99;
    }

    boolean span(int a, int b) {
        return isSecond(a) && isSecond(b) && a <= b;
    }

    boolean neighbours(int p, int q) {
        return p != q && ((p + 1) % seats == q || (q + 1) % seats == p);
    }

    boolean reaches(int p, int spot) {
        return spot == p || spot == seats || spot < seats && neighbours(p, spot);
    }

    static boolean in(int set, int i) {
        return (set & 1 << i) != 0;
    }

    // ---- the room

    int room(int n) {
        if (n < 3 || n > 9) {
            no(2);
            return 0;
        }
        seats = n;
        s = new State();
        images = new State[3];
        reports.clear();
        controls.clear();
        trials.clear();
        return 1;
    }

    int person(int p, int need, int firm) {
        if (!isPerson(p)) {
            no(1);
            return 0;
        }
        if (need < 0 || need > 9 || firm < 0 || firm > 9) {
            no(2);
            return 0;
        }
        s.need[p] = need;
        s.firm[p] = firm;
        return 1;
    }

    int light(int from, int to, int v) {
        if (!span(from, to) || v < 0 || v > 9) {
            no(2);
            return 0;
        }
        Arrays.fill(s.light, from, to + 1, v);
        return 1;
    }

    int attend(int p, int spot, int from, int to) {
        if (!isPerson(p) || !(isSpot(spot) || spot == -1)) {
            no(1);
            return 0;
        }
        if (!span(from, to)) {
            no(2);
            return 0;
        }
        Arrays.fill(s.eyes[p], from, to + 1, spot);
        return 1;
    }

    int lead(int spot, int pull, int from, int to) {
        if (!isSpot(spot)) {
            return no(1);
        }
        if (pull < 1 || pull > 9 || !span(from, to)) {
            return no(2);
        }
        if (s.leads.size() == 12) {
            return no(3);
        }
        s.leads.add(new Lead(spot, pull, from, to));
        return s.leads.size() - 1;
    }

    int hold(int hand, int seems, int truly, int from, int to) {
        boolean none = seems == -1 && truly == -1;
        if (!isHand(hand) || !none && (!isHand(seems) || !isHand(truly))) {
            no(1);
            return 0;
        }
        if (!span(from, to)) {
            no(2);
            return 0;
        }
        if (!none && (!neighbours(hand / 2, seems / 2) || truly / 2 == hand / 2)) {
            no(5);
            return 0;
        }
        Arrays.fill(s.holds[hand], from, to + 1, none ? null : new Hold(seems, truly));
        return 1;
    }

    int thing(int spot) {
        if (!isSpot(spot)) {
            return no(1);
        }
        if (s.things.size() == 8) {
            return no(3);
        }
        if (!s.moves.isEmpty()) {
            return no(5);
        }
        s.things.add(spot);
        return s.things.size() - 1;
    }

    int move(int hand, int thing, int spot, int second) {
        if (!isHand(hand) || !isThing(thing) || !isSpot(spot)) {
            return no(1);
        }
        if (!isSecond(second)) {
            return no(2);
        }
        if (s.moves.size() == 40) {
            return no(3);
        }
        int from = where(thing, 99);
        boolean later = s.moves.stream().anyMatch(m -> m.second > second);
        if (!free(hand, second) || !reaches(hand / 2, from) || !reaches(hand / 2, spot) || from == spot || later) {
            return no(5);
        }
        s.moves.add(new Move(hand, thing, from, spot, second));
        return s.moves.size() - 1;
    }

    int where(int thing, int second) {
        if (!isThing(thing) || second < -1 || second > 99) {
            return -1;
        }
        int spot = s.things.get(thing);
        for (Move m : s.moves) {
            if (m.thing == thing && m.second <= second) {
                spot = m.to;
            }
        }
        return spot;
    }

    int saw(int move, int p) {
        if (move < 0 || move >= s.moves.size() || !isPerson(p) || s.moves.get(move).hand / 2 == p) {
            return -1;
        }
        Move m = s.moves.get(move);
        return sees(p, m.from, m.second) || sees(p, m.to, m.second) ? 1 : 0;
    }

    int truly(int hand, int t) {
        return s.holds[hand][t] == null ? -1 : s.holds[hand][t].truly;
    }

    int seems(int hand, int t) {
        return s.holds[hand][t] == null ? -1 : s.holds[hand][t].seems;
    }

    int lightOf(int t) {
        int v = s.light[t];
        for (int c = 0; c < controls.size(); c++) {
            Control k = controls.get(c);
            if (in(force, c) && k.kind == 1 && k.from <= t && t <= k.to) {
                v = Math.max(v, k.v);
            }
        }
        return v;
    }

    boolean tied(int hand, int t) {
        for (int c = 0; c < controls.size(); c++) {
            Control k = controls.get(c);
            if (in(force, c) && k.kind == 0 && k.what == hand && k.from <= t && t <= k.to) {
                return true;
            }
        }
        return false;
    }

    Lead leadOf(int p, int t) {
        Lead best = null;
        for (Lead l : s.leads) {
            if (l.from <= t && t <= l.to && s.firm[p] < l.pull && (best == null || l.from >= best.from)) {
                best = l;
            }
        }
        return best;
    }

    /** EYES, with a call that a WAY has made (0: none) by a PERSON. */
    int eyes(int p, int t, int call, int caller) {
        for (int c = controls.size() - 1; c >= 0; c--) {
            Control k = controls.get(c);
            if (in(force, c) && k.kind == 2 && k.what == p && k.from <= t && t <= k.to) {
                return k.v;
            }
        }
        if (call > 0 && p != caller && s.firm[p] < call) {
            return seats;
        }
        Lead l = leadOf(p, t);
        return l == null ? s.eyes[p][t] : l.spot;
    }

    boolean canSee(int p, int t) {
        return lightOf(t) >= s.need[p];
    }

    boolean sees(int p, int spot, int t) {
        return sees(p, spot, t, 0, -1);
    }

    boolean sees(int p, int spot, int t, int call, int caller) {
        return eyes(p, t, call, caller) == spot && canSee(p, t);
    }

    boolean held(int hand, int t) {
        for (int other = 0; other < 2 * seats; other++) {
            if (truly(other, t) == hand) {
                return true;
            }
        }
        return false;
    }

    boolean free(int hand, int t) {
        return truly(hand, t) == -1 && !held(hand, t) && !tied(hand, t);
    }

    int at(int what, int which, int t) {
        if (!isSecond(t)) {
            return -1;
        }
        if (what == 0) {
            return s.light[t];
        }
        if (what == 1 || what == 5) {
            return !isPerson(which) ? -1 : what == 1 ? eyes(which, t, 0, -1) : leadOf(which, t) == null ? 0 : 1;
        }
        if (!isHand(which)) {
            return -1;
        }
        return what == 2 ? free(which, t) ? 1 : 0 : what == 3 ? seems(which, t) : what == 4 ? truly(which, t) : -1;
    }

    boolean vouches(int p, int hand, int t, boolean truly) {
        if (p == hand / 2) {
            return false;
        }
        for (int own = 2 * p; own <= 2 * p + 1; own++) {
            if ((truly ? truly(own, t) : seems(own, t)) == hand) {
                return true;
            }
        }
        return sees(p, hand / 2, t);
    }

    int vouch(int hand, int t, boolean truly) {
        if (!isHand(hand) || !isSecond(t)) {
            return -1;
        }
        int set = 0;
        for (int p = 0; p < seats; p++) {
            set += vouches(p, hand, t, truly) ? 1 << p : 0;
        }
        return set;
    }

    int gap(int hand, boolean truly, int what) {
        if (!isHand(hand) || what < 0 || what > 3) {
            return -1;
        }
        StringBuilder marks = new StringBuilder();
        int said = 0;
        for (int t = 0; t < 100; t++) {
            marks.append(vouch(hand, t, truly) == 0 ? 'g' : '.');
            said += vouch(hand, t, true) == 0 && vouch(hand, t, false) != 0 ? 1 : 0;
        }
        if (what == 3) {
            return said;
        }
        if (what == 1) {
            return marks.indexOf("g");
        }
        int all = 0;
        int most = 0;
        for (String run : marks.toString().split("\\.")) {
            all += run.length();
            most = Math.max(most, run.length());
        }
        return what == 0 ? all : most;
    }

    int image(int i) {
        if (i < 0 || i > 2) {
            no(1);
            return 0;
        }
        images[i] = s.copy();
        return 1;
    }

    int restore(int i) {
        if (i < 0 || i > 2) {
            no(1);
            return 0;
        }
        if (images[i] == null) {
            no(5);
            return 0;
        }
        s = images[i].copy();
        return 1;
    }

    // ---- ways

    int feed(int... five) {
        if (tape.size() + 20 > 400) {
            return -1;
        }
        for (int v : five) {
            for (byte b : java.nio.ByteBuffer.allocate(4).putInt(v).array()) {
                tape.add(b & 255);
            }
        }
        return tape.size();
    }

    static final class Faulty extends Exception {
        final int kind;
        final int place;

        Faulty(int kind, int place) {
            this.kind = kind;
            this.place = place;
        }
    }

    static final List<String> WORDS = List.of("way", "memory", "free", "move", "wait", "dark", "away", "swap", "call",
            "ready", "left", "right");
    // What stands behind each STEP's word: S a SIDE, the others the letters of a bound.
    static final Map<String, String> SHAPES = new HashMap<>(Map.of("free", "S", "move", "SN", "wait", "N", "dark", "D",
            "away", "", "swap", "S", "call", "C", "ready", "SN"));

    static final class Tokens {
        final List<String> text = new ArrayList<>();
        final List<Integer> place = new ArrayList<>();
        int next;

        Tokens(String all) {
            var m = java.util.regex.Pattern.compile("[a-z]+|[0-9]+|[^ \n]", java.util.regex.Pattern.DOTALL).matcher(all);
            while (m.find()) {
                text.add(m.group());
                place.add(m.start());
            }
            text.add("");
            place.add(all.length());
        }

        String peek() throws Faulty {
            String t = text.get(next);
            if (!t.matches("|[a-z]{1,8}|[0-9]{1,3}|;")) {
                throw new Faulty(1, place.get(next));
            }
            return t;
        }

        Faulty faulty(int kind) {
            return new Faulty(kind, place.get(next));
        }

        int number(int low, int high) throws Faulty {
            if (!peek().matches("[0-9]+")) {
                throw faulty(2);
            }
            int n = Integer.parseInt(peek());
            if (n < low || n > high) {
                throw faulty(3);
            }
            next++;
            return n;
        }
    }

    int text(int n) {
        if (n < 0 || n > tape.size()) {
            return no(2);
        }
        StringBuilder all = new StringBuilder();
        for (int i = 0; i < n; i++) {
            all.append((char) (int) tape.get(i));
        }
        tape.clear();
        List<Way> read = new ArrayList<>();
        int[] memory = new int[2];
        try {
            parse(new Tokens(all.toString()), read, memory);
        } catch (Faulty f) {
            fault = f.kind;
            faultPlace = f.place;
            return no(4);
        }
        fault = 0;
        faultPlace = -1;
        ways = read;
        loss = memory[0];
        smooth = memory[1];
        return ways.size();
    }

    void parse(Tokens in, List<Way> read, int[] memory) throws Faulty {
        while (!in.peek().isEmpty()) {
            if (in.peek().equals("way")) {
                if (read.size() == 8) {
                    throw in.faulty(5);
                }
                in.next++;
                String name = in.peek();
                if (!name.matches("[a-z]+") || WORDS.contains(name)) {
                    throw in.faulty(2);
                }
                if (read.stream().anyMatch(w -> w.name.equals(name))) {
                    throw in.faulty(4);
                }
                in.next++;
                Way way = new Way(name, new ArrayList<>());
                while (SHAPES.containsKey(in.peek())) {
                    if (way.steps.size() == 8) {
                        throw in.faulty(5);
                    }
                    way.steps.add(step(in));
                }
                read.add(way);
            } else if (in.peek().equals("memory")) {
                in.next++;
                memory[0] = in.number(0, 20);
                memory[1] = in.number(0, 20);
            } else {
                throw in.faulty(2);
            }
            if (!in.peek().equals(";")) {
                throw in.faulty(2);
            }
            in.next++;
        }
    }

    Step step(Tokens in) throws Faulty {
        String word = in.peek();
        in.next++;
        int side = 0;
        int n = 0;
        for (char c : SHAPES.get(word).toCharArray()) {
            if (c == 'S') {
                if (!in.peek().equals("left") && !in.peek().equals("right")) {
                    throw in.faulty(2);
                }
                side = in.peek().equals("right") ? 1 : 0;
                in.next++;
            } else {
                n = in.number(c == 'D' ? 0 : 1, c == 'N' ? 20 : 9);
            }
        }
        return new Step(word, side, n);
    }

    int fault(int what) {
        return what == 0 ? fault : what == 1 ? faultPlace : -1;
    }

    int way(int w, int what) {
        if (w < 0 || w >= ways.size()) {
            return -1;
        }
        return what == 0 ? ways.get(w).steps.size() : what == 1 ? ways.get(w).time() : -1;
    }

    boolean task(int thing, int spot, int a, int b) {
        return isThing(thing) && isSpot(spot) && span(a, b);
    }

    int fits(int w, int p, int friends, int thing, int spot, int a, int b) {
        if (w < 0 || w >= ways.size() || !isPerson(p) || friends < 0 || friends >= 1 << seats
                || !task(thing, spot, a, b)) {
            return -1;
        }
        for (int t = a; t <= b; t++) {
            int last = ways.get(w).time() == 0 ? t : t + ways.get(w).time() - 1;
            if (last <= b && runs(ways.get(w), p, friends | 1 << p, thing, spot, t, last)) {
                return t;
            }
        }
        return -1;
    }

    boolean runs(Way w, int p, int mine, int thing, int spot, int start, int last) {
        int lies = where(thing, start - 1);
        if (lies == spot || !reaches(p, lies) || !reaches(p, spot)) {
            return false;
        }
        int t = start;
        int call = 0;
        boolean[] swapped = new boolean[2];
        for (Step k : w.steps) {
            int hand = 2 * p + k.side;
            switch (k.word) {
                case "free" -> {
                    for (int u = t; u == t || u <= last; u++) {
                        if (u > 99 || truly(hand, u) != -1 || tied(hand, u) || !swapped[k.side] && held(hand, u)) {
                            return false;
                        }
                    }
                }
                case "dark" -> {
                    if (t > 99 || lightOf(t) > k.n) {
                        return false;
                    }
                }
                case "away" -> {
                    for (int q = 0; q < seats; q++) {
                        if (t > 99 || !in(mine, q) && eyes(q, t, call, p) == p) {
                            return false;
                        }
                    }
                }
                case "swap" -> {
                    if (t > 99 || swapped[1 - k.side] || !held(2 * p + 1 - k.side, t)) {
                        return false;
                    }
                    for (int q = 0; q < seats; q++) {
                        if (!in(mine, q) && sees(q, p, t, call, p)) {
                            return false;
                        }
                    }
                    swapped[k.side] = true;
                }
                case "call" -> call = Math.max(call, k.n);
                case "ready" -> {
                    boolean found = false;
                    for (int u = start - k.n; u < start; u++) {
                        found |= u >= 0 && free(hand, u) && unseen(mine, lies, u, start);
                    }
                    if (!found) {
                        return false;
                    }
                }
                case "wait" -> t += k.n;
                default -> {
                    for (int i = 0; i < k.n; i++, t++) {
                        for (int q = 0; q < seats; q++) {
                            if (in(mine, q)) {
                                continue;
                            }
                            boolean holds = truly(2 * q, t) == hand || truly(2 * q + 1, t) == hand;
                            if (holds && !swapped[k.side] || sees(q, p, t, call, p) || sees(q, lies, t, call, p)
                                    || sees(q, spot, t, call, p)) {
                                return false;
                            }
                        }
                    }
                }
            }
        }
        return true;
    }

    boolean unseen(int mine, int spot, int from, int before) {
        for (int t = from; t < before; t++) {
            for (int q = 0; q < seats; q++) {
                if (!in(mine, q) && sees(q, spot, t)) {
                    return false;
                }
            }
        }
        return true;
    }

    // ---- reports

    int report(int p, int kind, int what, int spot, int a, int b, int day) {
        if (!isPerson(p) || kind != 0 && kind != 1 || kind == 0 && (!isThing(what) || !isSpot(spot))
                || kind == 1 && (!isHand(what) || what / 2 == p)) {
            return no(1);
        }
        if (!span(a, b) || day < 0 || day > 30) {
            return no(2);
        }
        if (reports.size() == 30) {
            return no(3);
        }
        reports.add(new Report(p, kind, what, spot, a, b, day));
        return reports.size() - 1;
    }

    Report rep(int i) {
        return i < 0 || i >= reports.size() ? null : reports.get(i);
    }

    int right(int i) {
        Report r = rep(i);
        if (r == null) {
            return -1;
        }
        if (r.kind == 0) {
            return isThing(r.what) && s.moves.stream().anyMatch(
                    m -> m.thing == r.what && m.to == r.spot && r.a <= m.second && m.second <= r.b) ? 1 : 0;
        }
        for (int own = 2 * r.person; own <= 2 * r.person + 1; own++) {
            int held = 0;
            for (int t = r.a; t <= r.b; t++) {
                held += truly(own, t) == r.what ? 1 : 0;
            }
            if (held == r.b - r.a + 1) {
                return 1;
            }
        }
        return 0;
    }

    int honest(int i) {
        Report r = rep(i);
        if (r == null) {
            return -1;
        }
        if (r.kind == 0) {
            for (int m = 0; isThing(r.what) && m < s.moves.size(); m++) {
                Move v = s.moves.get(m);
                if (v.thing == r.what && v.to == r.spot && saw(m, r.person) == 1 && v.second >= r.a - loss * r.day
                        && v.second <= r.b + loss * r.day) {
                    return 1;
                }
            }
            return 0;
        }
        for (int from = r.a; from <= r.b; from++) {
            int t = from;
            while (t <= r.b && seems(2 * r.person, t) != r.what && seems(2 * r.person + 1, t) != r.what) {
                t++;
            }
            if (t - from > smooth * r.day) {
                return 0;
            }
        }
        return 1;
    }

    int agree(int i, int j) {
        Report a = rep(i);
        Report b = rep(j);
        if (a == null || b == null || i == j) {
            return -1;
        }
        if (a.kind != b.kind || a.what != b.what) {
            return 0;
        }
        return a.kind == 1 || a.spot == b.spot && Math.max(a.a, b.a) <= Math.min(a.b, b.b) ? 1 : 0;
    }

    boolean story(int w, int p, Report r, boolean friend) {
        boolean fits = fits(w, p, 0, r.what, r.spot, r.a, r.b) >= 0;
        for (int q = 0; friend && q < seats; q++) {
            fits |= q != p && fits(w, p, 1 << q, r.what, r.spot, r.a, r.b) >= 0;
        }
        return fits;
    }

    int stories(int i, boolean friend, int what) {
        Report r = rep(i);
        if (r == null || r.kind != 0 || what < 0 || what > 2) {
            return -1;
        }
        int n = 0;
        int persons = 0;
        int set = 0;
        for (int w = 0; w < ways.size(); w++) {
            for (int p = 0; p < seats; p++) {
                if (isThing(r.what) && story(w, p, r, friend)) {
                    n++;
                    persons |= 1 << p;
                    set |= 1 << w;
                }
            }
        }
        return what == 0 ? n : what == 1 ? persons : set;
    }

    int least(int i, int what) {
        Report r = rep(i);
        if (r == null || r.kind != 0 || what < 0 || what > 2 || !isThing(r.what) || stories(i, false, 0) > 0) {
            return -1;
        }
        TreeSet<Integer> all = new TreeSet<>();
        for (int h = 0; h < 2 * seats; h++) {
            for (int t = r.a; t <= r.b; t++) {
                if (reaches(h / 2, where(r.what, r.a - 1)) && reaches(h / 2, r.spot)) {
                    all.add(10000 * Integer.bitCount(vouch(h, t, true)) + 100 * t + h);
                }
            }
        }
        if (all.isEmpty()) {
            return -1;
        }
        int v = all.first();
        return what == 0 ? v % 100 : what == 1 ? v / 100 % 100 : v / 10000;
    }

    static int order(int[] a, int[] b) {
        return Arrays.compare(a, b);
    }

    boolean hop(int hand, int from, int to, int t, int set) {
        if (!in(set, hand / 2) || from == to || !reaches(hand / 2, from) || !reaches(hand / 2, to) || !free(hand, t)) {
            return false;
        }
        for (int q = 0; q < seats; q++) {
            if (!in(set, q) && (vouches(q, hand, t, true) || sees(q, from, t) || sees(q, to, t))) {
                return false;
            }
        }
        return true;
    }

    /** All rows that are the first of their number of HOPS, last SECOND and SPOT, number by number of HOPS. */
    int[] shortest(int thing, int spot, int set, int a, int b) {
        Map<Integer, int[]> rows = new HashMap<>();
        rows.put(1000 * where(thing, a - 1) + a - 1 + 100, new int[0]);
        for (int k = 0; k <= 10 && !rows.isEmpty(); k++) {
            int[] best = null;
            for (var e : rows.entrySet()) {
                if (e.getKey() / 1000 == spot) {
                    int[] row = e.getValue();
                    boolean earlier = best != null && k > 0 && row[row.length - 3] != best[best.length - 3];
                    if (best == null || (earlier ? row[row.length - 3] < best[best.length - 3] : order(row, best) < 0)) {
                        best = row;
                    }
                }
            }
            if (best != null) {
                return best;
            }
            Map<Integer, int[]> more = new HashMap<>();
            for (var e : rows.entrySet()) {
                int from = e.getKey() / 1000;
                for (int t = e.getKey() % 1000 - 100 + 1; t <= b; t++) {
                    for (int h = 0; h < 2 * seats; h++) {
                        for (int to = 0; to <= seats; to++) {
                            if (hop(h, from, to, t, set)) {
                                int[] row = Arrays.copyOf(e.getValue(), e.getValue().length + 3);
                                row[row.length - 3] = t;
                                row[row.length - 2] = h;
                                row[row.length - 1] = to;
                                more.merge(1000 * to + t + 100, row, (x, y) -> order(x, y) <= 0 ? x : y);
                            }
                        }
                    }
                }
            }
            rows = more;
        }
        return null;
    }

    int pass(int thing, int spot, int persons, int a, int b, int what) {
        if (!task(thing, spot, a, b) || persons < 0 || persons >= 1 << seats) {
            return -1;
        }
        int[] row = shortest(thing, spot, persons, a, b);
        if (row == null || what < -1 || what >= row.length) {
            return -1;
        }
        return what == -1 ? row.length / 3 : row[what];
    }

    boolean passes(int set, Report r) {
        TreeSet<Integer> at = new TreeSet<>(List.of(where(r.what, r.a - 1)));
        for (int t = r.a; t <= r.b; t++) {
            TreeSet<Integer> more = new TreeSet<>(at);
            for (int from : at) {
                for (int to = 0; to <= seats; to++) {
                    for (int h = 0; h < 2 * seats && !more.contains(to); h++) {
                        if (hop(h, from, to, t, set)) {
                            more.add(to);
                        }
                    }
                }
            }
            at = more;
        }
        return at.contains(r.spot);
    }

    int culprits(int set) {
        if (set <= 0) {
            return -1;
        }
        List<Report> asked = new ArrayList<>();
        for (int i = 0; i < 31; i++) {
            if (in(set, i)) {
                Report r = rep(i);
                if (r == null || r.kind != 0 || !isThing(r.what)) {
                    return -1;
                }
                asked.add(r);
            }
        }
        int best = -1;
        for (int persons = 0; persons < 1 << seats; persons++) {
            int p = persons;
            if ((best == -1 || Integer.bitCount(p) < Integer.bitCount(best))
                    && asked.stream().allMatch(r -> passes(p, r))) {
                best = p;
            }
        }
        return best;
    }

    int record(int p, int what) {
        if (!isPerson(p) || what < 0 || what > 4) {
            return -1;
        }
        int n = 0;
        for (int i = 0; i < reports.size(); i++) {
            if (reports.get(i).person == p) {
                boolean r = right(i) == 1;
                boolean h = honest(i) == 1;
                n += new boolean[] {true, r, h, r && !h, h && !r}[what] ? 1 : 0;
            }
        }
        return n;
    }

    // ---- controls

    int control(int kind, int what, int v, int from, int to, int cost) {
        if (kind < 0 || kind > 2 || kind == 0 && !isHand(what) || kind == 2 && (!isPerson(what) || !isSpot(v))) {
            return no(1);
        }
        if (kind == 1 && (v < 0 || v > 9) || !span(from, to) || cost < 1 || cost > 1000) {
            return no(2);
        }
        if (controls.size() == 8) {
            return no(3);
        }
        controls.add(new Control(kind, what, v, from, to, cost));
        return controls.size() - 1;
    }

    int fitsUnder(int set, int w, int p, int thing, int spot, int a, int b) {
        force = set;
        int t = fits(w, p, 0, thing, spot, a, b);
        force = 0;
        return t;
    }

    boolean closesIt(int set, int thing, int spot, int a, int b) {
        for (int w = 0; w < ways.size(); w++) {
            for (int p = 0; p < seats; p++) {
                if (fitsUnder(set, w, p, thing, spot, a, b) != -1) {
                    return false;
                }
            }
        }
        return true;
    }

    int closes(int set, int thing, int spot, int a, int b) {
        if (set < 0 || set >= 1 << controls.size() || !task(thing, spot, a, b)) {
            return -1;
        }
        return closesIt(set, thing, spot, a, b) ? 1 : 0;
    }

    int cheapest(int thing, int spot, int a, int b, int what) {
        if (!task(thing, spot, a, b) || what < 0 || what > 1) {
            return -1;
        }
        TreeSet<Integer> closing = new TreeSet<>();
        for (int set = 0; set < 1 << controls.size(); set++) {
            int cost = 0;
            for (int c = 0; c < controls.size(); c++) {
                cost += in(set, c) ? controls.get(c).cost : 0;
            }
            if (closesIt(set, thing, spot, a, b)) {
                closing.add(cost << 12 | Integer.bitCount(set) << 8 | set);
            }
        }
        return closing.isEmpty() ? -1 : what == 0 ? closing.first() & 255 : closing.first() >> 12;
    }

    int opens(int c, int thing, int spot, int a, int b) {
        if (c < 0 || c >= controls.size() || !task(thing, spot, a, b)) {
            return -1;
        }
        int n = 0;
        for (int w = 0; w < ways.size(); w++) {
            for (int p = 0; p < seats; p++) {
                n += fitsUnder(1 << c, w, p, thing, spot, a, b) >= 0 && fitsUnder(0, w, p, thing, spot, a, b) < 0 ? 1 : 0;
            }
        }
        return n;
    }

    int next(int i, int cost) {
        Report r = rep(i);
        if (r == null || r.kind != 0) {
            return -1;
        }
        int best = -1;
        int value = -1;
        for (int c = 0; c < controls.size(); c++) {
            if (controls.get(c).cost > cost) {
                continue;
            }
            int stay = 0;
            int all = 0;
            for (int w = 0; w < ways.size(); w++) {
                for (int p = 0; p < seats; p++) {
                    if (isThing(r.what) && story(w, p, r, false)) {
                        all++;
                        stay += fitsUnder(1 << c, w, p, r.what, r.spot, r.a, r.b) >= 0 ? 1 : 0;
                    }
                }
            }
            if (Math.min(stay, all - stay) > value) {
                value = Math.min(stay, all - stay);
                best = c;
            }
        }
        return best;
    }

    // ---- luck, rings, rules

    int trial(int answers, int hits) {
        if (answers < 2 || answers > 20 || hits < 1 || hits >= answers) {
            return no(2);
        }
        if (trials.size() == 9) {
            return no(3);
        }
        trials.add(new Trial(answers, hits));
        return trials.size() - 1;
    }

    BigInteger rows(int h) {
        BigInteger sum = BigInteger.ZERO;
        for (int hit = 0; hit < 1 << trials.size(); hit++) {
            BigInteger n = BigInteger.ONE;
            for (int i = 0; i < trials.size(); i++) {
                Trial t = trials.get(i);
                n = n.multiply(BigInteger.valueOf(in(hit, i) ? t.hits : t.answers - t.hits));
            }
            sum = Integer.bitCount(hit) >= h ? sum.add(n) : sum;
        }
        return sum;
    }

    long luck(int h) {
        return h < -1 ? -1 : rows(h).longValueExact();
    }

    int chanceOf(int h) {
        return rows(h).multiply(BigInteger.valueOf(1000000)).divide(rows(0)).intValueExact();
    }

    int chance(int h, int r) {
        if (h < 0 || r < 1 || r > 100) {
            return -1;
        }
        BigInteger left = BigInteger.valueOf(1000000);
        for (int i = 0; i < r; i++) {
            left = left.multiply(BigInteger.valueOf(1000000 - chanceOf(h))).divide(BigInteger.valueOf(1000000));
        }
        return 1000000 - left.intValueExact();
    }

    int ease(int persons, int i) {
        if (persons < 0 || persons >= 1 << seats || i < -1) {
            return -1;
        }
        List<Integer> sets = new ArrayList<>();
        for (int set = 0; set < 1 << 2 * seats; set++) {
            boolean good = true;
            for (int h = 0; good && h < 2 * seats; h++) {
                good = !in(set, h) || in(persons, h / 2);
                for (int g = 0; good && in(set, h) && g < h; g++) {
                    good = !in(set, g) || g / 2 != h / 2 && !neighbours(g / 2, h / 2);
                }
            }
            if (good) {
                sets.add(set);
            }
        }
        return i == -1 ? sets.size() : i < sets.size() ? sets.get(i) : -1;
    }

    int fair(int set, int h, int limit, int thing, int spot, int a, int b) {
        int closes = closes(set, thing, spot, a, b);
        if (closes == -1 || h < 0 || limit < 0 || limit > 1000000) {
            return -1;
        }
        return closes == 0 ? 1 : chanceOf(h) > limit ? 2 : trials.size() < h ? 3 : 0;
    }

    int status(int reason) {
        return reason < 1 || reason > 5 ? -1 : status[reason];
    }

    int count(int what) {
        int[] all = {seats, s.leads.size(), s.things.size(), s.moves.size(), ways.size(), loss, smooth, reports.size(),
            controls.size(), trials.size(), tape.size()};
        return what < 0 || what > 10 ? -1 : all[what];
    }
}
