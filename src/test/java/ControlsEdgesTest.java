/** The edges that promises 31 to 42 name: CONTROLS, TRIALS, EASE, RULES, STATUS and counts. */
public final class ControlsEdgesTest {
    private static final int NONE = Edges.NONE;
    private static final int MAX = Edges.MAX;
    private static final int MIN = Edges.MIN;
    private static final int[][] BAD_SPANS = {{-1, 9}, {0, 100}, {9, 8}, {MIN, 9}, {0, MAX}, {100, 100}, {-1, -1}};
    private static final Edges EDGES = new Edges();

    public static void main(String[] args) {
        control();
        controlOrder();
        closes();
        inForce();
        cheapest();
        cheapestOf();
        opens();
        next();
        nextOf();
        trial();
        luck();
        chance();
        ease();
        easeRings();
        fair();
        fairOrder();
        status();
        count();
        EDGES.end();
    }

    private static int bit(boolean so) {
        return Edges.bit(so);
    }

    private static void control() {
        EDGES.promise(31, Edges::sitting);
        EDGES.says("1 (no such kind)");
        for (int n : new int[] {-1, 3, MIN, MAX}) {
            EDGES.refused(1, x -> x.control(n, 0, 0, 0, 9, 1));
        }
        EDGES.says("1 (no such HAND)");
        for (int n : new int[] {-1, 10, MIN, MAX}) {
            EDGES.refused(1, x -> x.control(0, n, 0, 0, 9, 1));
        }
        EDGES.taken(3, x -> x.control(0, 0, 0, 0, 9, 1));
        EDGES.taken(3, x -> x.control(0, 9, 0, 0, 9, 1));
        EDGES.says("kind 0: v isn't asked");
        for (int n : new int[] {-1, 10, MIN, MAX}) {
            EDGES.taken(3, x -> x.control(0, 9, n, 0, 9, 1));
        }
        EDGES.says("kind 1: LIGHT is v or more (0 to 9)");
        for (int n : new int[] {-1, 10, MIN, MAX}) {
            EDGES.refused(2, x -> x.control(1, 0, n, 0, 9, 1));
        }
        EDGES.taken(3, x -> x.control(1, 0, 0, 0, 9, 1));
        EDGES.taken(3, x -> x.control(1, 0, 9, 0, 9, 1));
        EDGES.says("kind 1: what isn't asked");
        for (int n : new int[] {-1, 10, MIN, MAX}) {
            EDGES.taken(3, x -> x.control(1, n, 5, 0, 9, 1));
        }
        EDGES.says("1 (no such PERSON)");
        for (int n : new int[] {-1, 5, MIN, MAX}) {
            EDGES.refused(1, x -> x.control(2, n, 0, 0, 9, 1));
        }
        EDGES.taken(3, x -> x.control(2, 0, 0, 0, 9, 1));
        EDGES.taken(3, x -> x.control(2, 4, 0, 0, 9, 1));
        EDGES.says("1 (no such SPOT)");
        for (int n : new int[] {-1, 6, MIN, MAX}) {
            EDGES.refused(1, x -> x.control(2, 0, n, 0, 9, 1));
        }
        EDGES.taken(3, x -> x.control(2, 0, 5, 0, 9, 1));
        for (int kind = 0; kind < 3; kind++) {
            int of = kind;
            EDGES.says("2 (SECONDS)");
            for (int[] span : BAD_SPANS) {
                EDGES.refused(2, x -> x.control(of, 0, 0, span[0], span[1], 1));
            }
            EDGES.taken(3, x -> x.control(of, 0, 0, 0, 99, 1));
            EDGES.taken(3, x -> x.control(of, 0, 0, 0, 0, 1));
            EDGES.taken(3, x -> x.control(of, 0, 0, 99, 99, 1));
            EDGES.says("a COST (1 to 1000)");
            for (int n : new int[] {0, 1001, -1, MIN, MAX}) {
                EDGES.refused(2, x -> x.control(of, 0, 0, 0, 9, n));
            }
            EDGES.taken(3, x -> x.control(of, 0, 0, 0, 9, 1));
            EDGES.taken(3, x -> x.control(of, 0, 0, 0, 9, 1000));
        }
        EDGES.says("of several the least: 1 ahead of 2");
        EDGES.refused(1, x -> x.control(3, 0, 0, 9, 0, 0));
        EDGES.refused(1, x -> x.control(0, 10, 0, 9, 0, 1));
        EDGES.refused(1, x -> x.control(2, 0, 6, 0, 9, 0));
    }

    private static void manyControls(RapTable x, int controls) {
        x.thing(0);
        for (int i = 0; i < controls; i++) {
            x.control(i % 3, i % 3, i % 4, i, 50 + i, 1 + i);
        }
    }

    private static void controlOrder() {
        EDGES.promise(31, x -> manyControls(x, 7));
        EDGES.says("CONTROLS, at most 8");
        EDGES.taken(7, x -> x.control(1, 0, 5, 0, 9, 1));
        EDGES.leaves(x -> x.control(1, 0, 5, 0, 9, 1), 8, x -> x.count(8));
        EDGES.leaves(x -> x.control(1, 0, 5, 0, 9, 1), 1, x -> x.closes(255, 0, 3, 0, 9));
        EDGES.scene(x -> manyControls(x, 8));
        EDGES.refused(3, x -> x.control(1, 0, 5, 0, 9, 1));
        EDGES.says("of several the least: 1 and 2 ahead of 3");
        EDGES.refused(1, x -> x.control(0, 6, 0, 0, 9, 1));
        EDGES.refused(2, x -> x.control(1, 0, 10, 0, 9, 1));
        EDGES.refused(2, x -> x.control(1, 0, 5, 9, 0, 1));
        EDGES.refused(2, x -> x.control(1, 0, 5, 0, 9, 1001));
    }

    private static void closes() {
        EDGES.promise(32, Edges::sitting);
        EDGES.says("NONE: none such: a set of CONTROLS");
        for (int n : new int[] {-1, 8, 9, 256, MIN, MAX}) {
            EDGES.refused(0, x -> x.closes(n, 0, 5, 0, 9));
        }
        EDGES.asked(0, x -> x.closes(0, 0, 5, 0, 9));
        EDGES.asked(1, x -> x.closes(7, 0, 5, 0, 9));
        EDGES.says("NONE: none such: THING");
        for (int n : new int[] {-1, 2, MIN, MAX}) {
            EDGES.refused(0, x -> x.closes(0, n, 5, 0, 9));
        }
        EDGES.says("NONE: none such: SPOT");
        for (int n : new int[] {-1, 6, MIN, MAX}) {
            EDGES.refused(0, x -> x.closes(0, 0, n, 0, 9));
        }
        EDGES.says("NONE: none such: SECONDS");
        for (int[] span : BAD_SPANS) {
            EDGES.refused(0, x -> x.closes(0, 0, 5, span[0], span[1]));
        }
        EDGES.says("eight CONTROLS: sets up to 255");
        EDGES.scene(x -> manyControls(x, 8));
        EDGES.asked(1, x -> x.closes(255, 0, 3, 0, 9));
        EDGES.refused(0, x -> x.closes(256, 0, 3, 0, 9));
        EDGES.says("no CONTROLS: the empty set alone");
        EDGES.scene(x -> x.thing(0));
        EDGES.asked(1, x -> x.closes(0, 0, 3, 0, 9));
        EDGES.refused(0, x -> x.closes(1, 0, 3, 0, 9));
        EDGES.says("if with it in force no WAY FITS for anybody alone");
        Edges.Scene dimSecond = x -> {
            x.room(4);
            x.thing(0);
            Edges.tell(x, "way a dark 3;");
            x.light(50, 50, 3);
        };
        EDGES.scene(dimSecond);
        EDGES.asked(0, x -> x.closes(0, 0, 4, 50, 50));
        EDGES.asked(0, x -> x.closes(0, 0, 4, 0, 99));
        EDGES.asked(1, x -> x.closes(0, 0, 4, 0, 49));
        EDGES.asked(1, x -> x.closes(0, 0, 4, 51, 99));
        EDGES.asked(1, x -> x.closes(0, 0, 0, 0, 99));
        EDGES.says("anybody: of PERSONS that there are, in every ring");
        for (int n = 3; n <= 9; n++) {
            int seats = n;
            EDGES.scene(x -> {
                x.room(seats);
                x.thing(seats - 1);
                Edges.tell(x, "way a free left;");
                for (int person = 0; person < seats; person++) {
                    x.hold(2 * person, 2 * ((person + 1) % seats) + 1, 2 * ((person + 1) % seats) + 1, 0, 99);
                }
            });
            EDGES.asked(1, x -> x.closes(0, 0, seats, 0, 99));
            EDGES.leaves(x -> bit(x.hold(0, NONE, NONE, 99, 99)), 0, x -> x.closes(0, 0, seats, 0, 99));
            EDGES.leaves(x -> bit(x.hold(2 * seats - 2, NONE, NONE, 99, 99)), 0, x -> x.closes(0, 0, seats, 0, 99));
        }
        EDGES.scene(dimSecond);
        EDGES.says("alone: a FRIEND doesn't help");
        EDGES.leaves(x -> Edges.tell(x, "way a move left 1;") + bit(x.attend(2, 4, 0, 99)), 1,
                x -> x.closes(0, 0, 4, 0, 49));
        EDGES.leaves(x -> Edges.tell(x, "way a move left 1;") + bit(x.attend(1, 4, 0, 99)), 0,
                x -> x.closes(0, 0, 4, 0, 49));
    }

    private static void inForce() {
        EDGES.promise(32, x -> {
            x.room(4);
            x.thing(0);
            for (int person = 1; person < 4; person++) {
                x.hold(2 * person, 2 * ((person + 1) % 4), 2 * ((person + 1) % 4), 0, 99);
            }
            x.hold(2, 4, 4, 0, 99);
            x.hold(6, 4, 4, 0, 99);
            Edges.tell(x, "way a free left;");
            x.control(0, 0, 0, 10, 20, 1);
            x.control(1, 0, 5, 10, 20, 1);
            x.control(2, 1, 0, 10, 20, 1);
        });
        EDGES.says("(0) a HAND is TIED, in SECONDS from one to one");
        EDGES.asked(0, x -> x.closes(1, 0, 4, 9, 9));
        EDGES.asked(1, x -> x.closes(1, 0, 4, 10, 10));
        EDGES.asked(1, x -> x.closes(1, 0, 4, 20, 20));
        EDGES.asked(0, x -> x.closes(1, 0, 4, 21, 21));
        EDGES.asked(0, x -> x.closes(6, 0, 4, 10, 20));
        EDGES.asked(0, x -> x.closes(0, 0, 4, 10, 20));
        EDGES.says("a HAND that is TIED isn't held, nor VOUCHED for");
        EDGES.leaves(x -> Edges.tell(x, "way a move left 1;"), 0, x -> x.closes(1, 0, 4, 10, 20));
        EDGES.says("(1) LIGHT is v or more, in SECONDS from one to one");
        Edges.Call dim = x -> Edges.tell(x, "way a dark 4;") + bit(x.light(0, 99, 4));
        EDGES.leaves(dim, 0, x -> x.closes(2, 0, 4, 9, 9));
        EDGES.leaves(dim, 1, x -> x.closes(2, 0, 4, 10, 10));
        EDGES.leaves(dim, 1, x -> x.closes(2, 0, 4, 20, 20));
        EDGES.leaves(dim, 0, x -> x.closes(2, 0, 4, 21, 21));
        EDGES.leaves(dim, 0, x -> x.closes(5, 0, 4, 10, 20));
        EDGES.leaves(x -> Edges.tell(x, "way a dark 5;") + bit(x.light(0, 99, 4)), 0, x -> x.closes(2, 0, 4, 10, 10));
        EDGES.leaves(x -> Edges.tell(x, "way a dark 5;") + bit(x.light(0, 99, 6)), 1, x -> x.closes(2, 0, 4, 10, 10));
        EDGES.says("(1) who couldn't see sees then, by NEED");
        Edges.Call watched = x -> Edges.tell(x, "way a move right 1;") + bit(x.light(0, 99, 0) && x.attend(2, 4, 0, 99));
        EDGES.leaves(watched, 1, x -> x.closes(2, 0, 4, 10, 20));
        EDGES.leaves(watched, 0, x -> x.closes(2, 0, 4, 10, 21));
        EDGES.leaves(x -> watched.on(x) + bit(x.person(2, 6, 0)), 0, x -> x.closes(2, 0, 4, 10, 20));
        EDGES.says("(2) a PERSON has EYES at a SPOT, in SECONDS from one to one");
        Edges.Call unwatched = x -> Edges.tell(x, "way a away dark 9;") + bit(x.attend(0, 1, 0, 99) && x.attend(2, 3, 0, 99));
        EDGES.leaves(unwatched, 0, x -> x.closes(4, 0, 4, 9, 9));
        EDGES.leaves(unwatched, 1, x -> x.closes(4, 0, 4, 10, 10));
        EDGES.leaves(unwatched, 1, x -> x.closes(4, 0, 4, 20, 20));
        EDGES.leaves(unwatched, 0, x -> x.closes(4, 0, 4, 21, 21));
        EDGES.says("(2) whatever LEADS there are");
        EDGES.leaves(x -> unwatched.on(x) + bit(x.person(0, 5, 9) && x.person(2, 5, 9)) + x.lead(4, 9, 0, 99), 1,
                x -> x.closes(4, 0, 4, 10, 20));
        EDGES.says("(2) of several CONTROLS the last");
        EDGES.leaves(x -> unwatched.on(x) + x.control(2, 1, 3, 15, 15, 1), 1, x -> x.closes(12, 0, 4, 14, 14));
        EDGES.leaves(x -> unwatched.on(x) + x.control(2, 1, 3, 15, 15, 1), 0, x -> x.closes(12, 0, 4, 15, 15));
        EDGES.leaves(x -> unwatched.on(x) + x.control(2, 1, 3, 15, 15, 1), 1, x -> x.closes(12, 0, 4, 16, 16));
        EDGES.says("CONTROLS of EYES go ahead of a call");
        EDGES.leaves(x -> unwatched.on(x) + Edges.tell(x, "way a call 9 away;"), 0, x -> x.closes(4, 0, 4, 10, 20));
        EDGES.leaves(x -> unwatched.on(x) + Edges.tell(x, "way a call 9 away;") + x.control(2, 0, 1, 10, 20, 1)
                + x.control(2, 2, 3, 10, 20, 1), 1, x -> x.closes(28, 0, 4, 10, 20));
        EDGES.says("None is in force but where a set of them is told");
        EDGES.asked(1, x -> x.at(2, 0, 10));
        EDGES.leaves(dim, 4, x -> x.at(0, 0, 10));
        EDGES.asked(NONE, x -> x.at(1, 1, 10));
        EDGES.asked(0, x -> x.vouch(0, 10, true) & 2);
    }

    private static void cheapest() {
        EDGES.promise(33, Edges::sitting);
        EDGES.says("NONE: none such: THING");
        for (int n : new int[] {-1, 2, MIN, MAX}) {
            EDGES.refused(0, x -> x.cheapest(n, 5, 0, 9, 0));
        }
        EDGES.says("NONE: none such: SPOT");
        for (int n : new int[] {-1, 6, MIN, MAX}) {
            EDGES.refused(0, x -> x.cheapest(0, n, 0, 9, 0));
        }
        EDGES.says("NONE: none such: SECONDS");
        for (int[] span : BAD_SPANS) {
            EDGES.refused(0, x -> x.cheapest(0, 5, span[0], span[1], 0));
        }
        EDGES.says("NONE: none such: what");
        for (int n : new int[] {-1, 2, MIN, MAX}) {
            EDGES.refused(0, x -> x.cheapest(0, 0, 0, 9, n));
        }
        EDGES.says("the set, its COST: the empty one CLOSES it");
        EDGES.asked(0, x -> x.cheapest(0, 0, 0, 9, 0));
        EDGES.asked(0, x -> x.cheapest(0, 0, 0, 9, 1));
        EDGES.says("NONE: none CLOSES it");
        EDGES.scene(x -> {
            x.thing(0);
            Edges.tell(x, "way a;");
            x.control(0, 0, 0, 0, 99, 1);
        });
        EDGES.refused(0, x -> x.cheapest(0, 3, 0, 9, 0));
        EDGES.refused(0, x -> x.cheapest(0, 3, 0, 9, 1));
    }

    private static void darkRoom(RapTable x, int... costs) {
        x.thing(0);
        Edges.tell(x, "way a dark 3;");
        x.light(0, 99, 3);
        for (int i = 0; i < costs.length; i++) {
            int from = i % 3 == 1 ? 50 : 0;
            int to = i % 3 == 0 ? 49 : 99;
            x.control(1, 0, 4, from, to, costs[i]);
        }
    }

    private static void cheapestOf() {
        // CONTROLS 0, 3, 6 light the first half, 1, 4, 7 the other, 2 and 5 all
        EDGES.promise(33, x -> darkRoom(x, 5, 5, 11));
        EDGES.says("of the least COST together");
        EDGES.asked(3, x -> x.cheapest(0, 3, 0, 99, 0));
        EDGES.asked(10, x -> x.cheapest(0, 3, 0, 99, 1));
        EDGES.asked(1, x -> x.cheapest(0, 3, 49, 49, 0));
        EDGES.asked(2, x -> x.cheapest(0, 3, 50, 50, 0));
        EDGES.asked(3, x -> x.cheapest(0, 3, 49, 50, 0));
        EDGES.scene(x -> darkRoom(x, 5, 5, 9));
        EDGES.asked(4, x -> x.cheapest(0, 3, 0, 99, 0));
        EDGES.asked(9, x -> x.cheapest(0, 3, 0, 99, 1));
        EDGES.says("of like ones the fewest");
        EDGES.scene(x -> darkRoom(x, 5, 5, 10));
        EDGES.asked(4, x -> x.cheapest(0, 3, 0, 99, 0));
        EDGES.asked(10, x -> x.cheapest(0, 3, 0, 99, 1));
        EDGES.says("then the least number");
        EDGES.scene(x -> darkRoom(x, 5, 5, 10, 5, 5, 10));
        EDGES.asked(4, x -> x.cheapest(0, 3, 0, 99, 0));
        EDGES.scene(x -> darkRoom(x, 5, 5, 11, 5, 5, 11));
        EDGES.asked(3, x -> x.cheapest(0, 3, 0, 99, 0));
        EDGES.scene(x -> darkRoom(x, 7, 4, 99, 4, 7, 99, 4, 4));
        EDGES.asked(8 + 2, x -> x.cheapest(0, 3, 0, 99, 0));
        EDGES.says("COST together of all eight");
        EDGES.scene(x -> darkRoom(x, 1000, 1000, 1000, 1000, 1000, 1000, 1000, 1000));
        EDGES.asked(4, x -> x.cheapest(0, 3, 0, 99, 0));
        EDGES.asked(1000, x -> x.cheapest(0, 3, 0, 99, 1));
        EDGES.says("all eight are needed");
        EDGES.scene(x -> {
            x.thing(0);
            Edges.tell(x, "way a dark 3;");
            x.light(0, 7, 3);
            for (int i = 0; i < 8; i++) {
                x.control(1, 0, 4, i, i, 1000);
            }
        });
        EDGES.asked(255, x -> x.cheapest(0, 3, 0, 99, 0));
        EDGES.asked(8000, x -> x.cheapest(0, 3, 0, 99, 1));
        EDGES.leaves(x -> bit(x.light(8, 8, 3)), NONE, x -> x.cheapest(0, 3, 0, 99, 0));
        EDGES.leaves(x -> bit(x.light(8, 8, 3)), 255, x -> x.cheapest(0, 3, 0, 7, 0));
    }

    private static void opens() {
        EDGES.promise(34, Edges::sitting);
        EDGES.says("NONE: none such: CONTROL");
        for (int n : new int[] {-1, 3, 8, MIN, MAX}) {
            EDGES.refused(0, x -> x.opens(n, 0, 5, 0, 9));
        }
        EDGES.asked(0, x -> x.opens(0, 0, 5, 0, 9));
        EDGES.asked(0, x -> x.opens(2, 0, 5, 0, 9));
        EDGES.says("NONE: none such: THING");
        for (int n : new int[] {-1, 2, MIN, MAX}) {
            EDGES.refused(0, x -> x.opens(0, n, 5, 0, 9));
        }
        EDGES.says("NONE: none such: SPOT");
        for (int n : new int[] {-1, 6, MIN, MAX}) {
            EDGES.refused(0, x -> x.opens(0, 0, n, 0, 9));
        }
        EDGES.says("NONE: none such: SECONDS");
        for (int[] span : BAD_SPANS) {
            EDGES.refused(0, x -> x.opens(0, 0, 5, span[0], span[1]));
        }
        EDGES.says("if that FITS with it alone in force, and not without");
        EDGES.scene(x -> {
            x.room(5);
            x.thing(0);
            x.attend(2, 5, 0, 99);
            Edges.tell(x, "way a move left 1;way b move right 2;way c;");
            x.control(2, 2, 3, 10, 11, 1);
            x.control(2, 2, 3, 20, 20, 1);
            x.control(0, 0, 0, 0, 99, 1);
        });
        EDGES.asked(6, x -> x.opens(0, 0, 5, 0, 99));
        EDGES.asked(6, x -> x.opens(0, 0, 5, 10, 11));
        EDGES.asked(3, x -> x.opens(0, 0, 5, 11, 19));
        EDGES.asked(0, x -> x.opens(0, 0, 5, 12, 19));
        EDGES.asked(0, x -> x.opens(0, 0, 5, 0, 9));
        EDGES.asked(3, x -> x.opens(1, 0, 5, 0, 99));
        EDGES.asked(0, x -> x.opens(2, 0, 5, 0, 99));
        EDGES.leaves(x -> bit(x.attend(2, NONE, 50, 50)), 3, x -> x.opens(0, 0, 5, 0, 99));
        EDGES.leaves(x -> bit(x.attend(2, NONE, 50, 51)), 0, x -> x.opens(0, 0, 5, 0, 99));
        EDGES.leaves(x -> bit(x.attend(2, NONE, 50, 51)), 6, x -> x.opens(0, 0, 5, 0, 49));
        EDGES.says("a task that lies there already: nothing FITS");
        EDGES.asked(0, x -> x.opens(0, 0, 0, 0, 99));
    }

    private static void next() {
        EDGES.promise(35, Edges::sitting);
        EDGES.says("NONE: no REPORT (0)");
        for (int n : new int[] {-1, 3, 1, MIN, MAX}) {
            EDGES.refused(0, x -> x.next(n, 1000));
        }
        EDGES.says("NONE: no CONTROL has so low a COST");
        for (int n : new int[] {9, 0, -1, MIN}) {
            EDGES.refused(0, x -> x.next(0, n));
        }
        EDGES.asked(2, x -> x.next(0, 10));
        EDGES.asked(2, x -> x.next(0, 19));
        EDGES.says("NONE: there are no CONTROLS");
        EDGES.scene(x -> {
            x.thing(0);
            x.report(0, 0, 0, 3, 0, 9, 0);
        });
        EDGES.refused(0, x -> x.next(0, MAX));
        EDGES.refused(0, x -> x.next(0, 1000));
    }

    private static void nextOf() {
        Edges.Scene threeWays = x -> {
            x.room(5);
            x.thing(0);
            x.report(0, 0, 0, 5, 10, 20, 0);
            Edges.tell(x, "way a free left;way b free right;way c dark 3;");
            x.light(10, 10, 3);
            // nine STORIES: each WAY for 0, 1 and 4
            x.control(0, 8, 0, 0, 99, 10);
            x.control(1, 0, 4, 0, 99, 20);
            x.control(0, 9, 0, 0, 99, 10);
            x.control(1, 0, 5, 0, 99, 30);
            x.control(0, 4, 0, 0, 99, 5);
        };
        EDGES.promise(35, threeWays);
        EDGES.says("of CONTROLS whose COST isn't above that");
        EDGES.asked(4, x -> x.next(0, 5));
        EDGES.asked(4, x -> x.next(0, 9));
        EDGES.asked(0, x -> x.next(0, 10));
        EDGES.asked(0, x -> x.next(0, 19));
        EDGES.asked(1, x -> x.next(0, 20));
        EDGES.asked(1, x -> x.next(0, MAX));
        EDGES.refused(0, x -> x.next(0, 4));
        EDGES.says("of like ones the least");
        EDGES.asked(0, x -> x.next(0, 15));
        EDGES.asked(1, x -> x.next(0, 30));
        EDGES.says("the lesser of those that FIT with it in force, too, and of the others");
        // of WAY c alone CONTROL 1 ends all three, 0 none; then all are like
        EDGES.leaves(x -> Edges.tell(x, "way c dark 3;"), 0, x -> x.next(0, MAX));
        // of a and c CONTROL 1 ends three of six, 0 one
        EDGES.leaves(x -> Edges.tell(x, "way a free left;way c dark 3;"), 1, x -> x.next(0, MAX));
        // of a alone CONTROL 0 ends one of three, 1 none
        EDGES.leaves(x -> Edges.tell(x, "way a free left;"), 0, x -> x.next(0, MAX));
        EDGES.leaves(x -> Edges.tell(x, "way b free right;"), 2, x -> x.next(0, MAX));
        EDGES.says("one that ends all and one that ends none are like");
        EDGES.scene(x -> {
            x.thing(0);
            x.report(0, 0, 0, 3, 0, 9, 0);
            Edges.tell(x, "way a dark 3;");
            x.light(0, 99, 3);
            x.control(1, 0, 4, 0, 99, 10);
            x.control(1, 0, 3, 0, 99, 10);
            x.control(1, 0, 9, 0, 99, 10);
        });
        EDGES.asked(0, x -> x.next(0, 10));
        EDGES.says("no STORIES: of like ones the least");
        EDGES.scene(threeWays);
        EDGES.leaves(x -> Edges.tell(x, ""), 0, x -> x.next(0, MAX));
        EDGES.leaves(x -> Edges.tell(x, ""), 4, x -> x.next(0, 5));
        EDGES.says("those that a CONTROL opens aren't STORIES");
        EDGES.leaves(x -> Edges.tell(x, "way a free left;way d move left 1;")
                + bit(x.light(10, 10, 9) && x.attend(2, 5, 0, 99)) + x.control(2, 2, 2, 0, 99, 1), 0, x -> x.next(0, MAX));
    }

    private static void trials(RapTable x, int trials) {
        for (int i = 0; i < trials; i++) {
            x.trial(2 + i, 1 + i / 2);
        }
    }

    private static void trial() {
        EDGES.promise(36, Edges::sitting);
        EDGES.says("so many answers (2 to 20)");
        for (int n : new int[] {1, 21, 0, -1, MIN, MAX}) {
            EDGES.refused(2, x -> x.trial(n, 1));
        }
        EDGES.taken(2, x -> x.trial(2, 1));
        EDGES.taken(2, x -> x.trial(20, 1));
        EDGES.says("so many (1 and more, not all)");
        for (int n = 2; n <= 20; n++) {
            int answers = n;
            EDGES.taken(2, x -> x.trial(answers, 1));
            EDGES.taken(2, x -> x.trial(answers, answers - 1));
            EDGES.refused(2, x -> x.trial(answers, answers));
            EDGES.refused(2, x -> x.trial(answers, 0));
        }
        for (int n : new int[] {-1, 6, MIN, MAX}) {
            EDGES.refused(2, x -> x.trial(5, n));
        }
        EDGES.refused(2, x -> x.trial(MIN, MIN));
        EDGES.refused(2, x -> x.trial(MIN, MAX));
        EDGES.says("TRIALS, at most 9");
        EDGES.scene(x -> trials(x, 8));
        EDGES.taken(8, x -> x.trial(20, 19));
        EDGES.leaves(x -> x.trial(20, 19), 9, x -> x.count(9));
        EDGES.scene(x -> trials(x, 9));
        EDGES.refused(3, x -> x.trial(2, 1));
        EDGES.says("of several the least: 2 ahead of 3");
        EDGES.refused(2, x -> x.trial(1, 1));
        EDGES.refused(2, x -> x.trial(5, 5));
    }

    private static void luck() {
        EDGES.promise(37, Edges::sitting);
        EDGES.says("NONE: h is below -1");
        for (int n : new int[] {-2, MIN}) {
            EDGES.refused(0, x -> x.luck(n));
        }
        EDGES.says("h -1: all rows");
        EDGES.asked(12, x -> x.luck(-1));
        EDGES.says("those with h hits or more");
        EDGES.asked(12, x -> x.luck(0));
        EDGES.asked(12 - 3, x -> x.luck(1));
        EDGES.asked(2, x -> x.luck(2));
        EDGES.asked(0, x -> x.luck(3));
        EDGES.asked(0, x -> x.luck(MAX));
        EDGES.says("no TRIALS: one empty row");
        EDGES.scene(x -> { });
        EDGES.asked(1, x -> x.luck(-1));
        EDGES.asked(1, x -> x.luck(0));
        EDGES.asked(0, x -> x.luck(1));
        EDGES.says("nine TRIALS of twenty answers: rows beyond an int");
        EDGES.scene(x -> {
            for (int i = 0; i < 9; i++) {
                x.trial(20, 19);
            }
        });
        EDGES.asked(512000000000L, x -> x.luck(-1));
        EDGES.asked(512000000000L, x -> x.luck(0));
        EDGES.asked(511999999999L, x -> x.luck(1));
        EDGES.asked(322687697779L, x -> x.luck(9));
        EDGES.asked(0, x -> x.luck(10));
        EDGES.leaves(x -> bit(x.room(3)), 1, x -> x.luck(-1));
    }

    private static void chance() {
        EDGES.promise(38, Edges::sitting);
        EDGES.says("NONE: h is below 0");
        for (int n : new int[] {-1, -2, MIN}) {
            EDGES.refused(0, x -> x.chance(n, 1));
        }
        EDGES.says("r sittings (1 to 100): NONE: no such r");
        for (int n : new int[] {0, 101, -1, MIN, MAX}) {
            EDGES.refused(0, x -> x.chance(1, n));
        }
        EDGES.asked(750000, x -> x.chance(1, 1));
        EDGES.asked(1000000, x -> x.chance(1, 100));
        EDGES.says("CHANCE: 1,000,000 times these by all rows, rounded down");
        EDGES.asked(166666, x -> x.chance(2, 1));
        EDGES.asked(1000000, x -> x.chance(0, 1));
        EDGES.asked(0, x -> x.chance(3, 1));
        EDGES.asked(0, x -> x.chance(MAX, 100));
        EDGES.says("LEFT times (1,000,000 less CHANCE) by 1,000,000, rounded down");
        // 833334 times itself: 694445.55; 694445 times 833334: 578704.62
        EDGES.asked(1000000 - 694445, x -> x.chance(2, 2));
        EDGES.asked(1000000 - 578704, x -> x.chance(2, 3));
        EDGES.says("no TRIALS: none or more hits are certain, one isn't");
        EDGES.scene(x -> { });
        EDGES.asked(1000000, x -> x.chance(0, 1));
        EDGES.asked(1000000, x -> x.chance(0, 100));
        EDGES.asked(0, x -> x.chance(1, 1));
        EDGES.asked(0, x -> x.chance(1, 100));
        EDGES.says("the least CHANCE there is: rounded down to none");
        EDGES.scene(x -> {
            for (int i = 0; i < 9; i++) {
                x.trial(20, 1);
            }
        });
        EDGES.asked(0, x -> x.chance(9, 100));
        EDGES.asked(369750, x -> x.chance(1, 1));
        EDGES.asked(0, x -> x.chance(6, 1) / 2);
        EDGES.says("nearly certain");
        EDGES.scene(x -> {
            for (int i = 0; i < 9; i++) {
                x.trial(20, 19);
            }
        });
        EDGES.asked(999999, x -> x.chance(1, 1));
        EDGES.asked(1000000, x -> x.chance(1, 2));
        EDGES.asked(630249, x -> x.chance(9, 1));
    }

    private static void ease() {
        EDGES.promise(39, Edges::sitting);
        EDGES.says("NONE: none such: PERSONS");
        for (int n : new int[] {-1, 32, MIN, MAX}) {
            EDGES.refused(0, x -> x.ease(n, -1));
            EDGES.refused(0, x -> x.ease(n, 0));
        }
        EDGES.says("NONE: none such: i");
        for (int n : new int[] {-2, 31, MIN, MAX}) {
            EDGES.refused(0, x -> x.ease(31, n));
        }
        EDGES.says("how many (i is -1)");
        EDGES.asked(31, x -> x.ease(31, -1));
        EDGES.says("the i-th set of HANDS by their numbers");
        EDGES.asked(0, x -> x.ease(31, 0));
        EDGES.asked(1, x -> x.ease(31, 1));
        EDGES.asked((1 << 9) + (1 << 5), x -> x.ease(31, 30));
        EDGES.says("of nobody: the empty one");
        EDGES.asked(1, x -> x.ease(0, -1));
        EDGES.asked(0, x -> x.ease(0, 0));
        EDGES.refused(0, x -> x.ease(0, 1));
        EDGES.says("of one: none or one of both HANDS");
        EDGES.asked(3, x -> x.ease(16, -1));
        EDGES.asked(1 << 8, x -> x.ease(16, 1));
        EDGES.asked(1 << 9, x -> x.ease(16, 2));
        EDGES.refused(0, x -> x.ease(16, 3));
        EDGES.says("no two of neighbours: the first and the last are");
        EDGES.asked(5, x -> x.ease(1 + 16, -1));
        EDGES.asked(5, x -> x.ease(1 + 2, -1));
        EDGES.asked(9, x -> x.ease(1 + 4, -1));
        EDGES.asked(9, x -> x.ease(2 + 16, -1));
    }

    // Rings of every size against a plain count of all sets of HANDS, in the order of their numbers.
    private static void easeRings() {
        for (int n = 3; n <= 9; n++) {
            int seats = n;
            EDGES.promise(39, x -> x.room(seats));
            EDGES.says("a ring of " + seats);
            for (int persons : new int[] {(1 << seats) - 1, (1 << seats) - 2, 5, 1 << seats - 1 | 1, 1 << seats - 1 | 2}) {
                int found = 0;
                RapTable x = new RapTable();
                x.room(seats);
                for (int set = 0; set < 1 << 2 * seats; set++) {
                    if (isEasy(set, persons, seats)) {
                        int want = set;
                        int i = found;
                        if (seats < 7 || i % 16 == 0) {
                            EDGES.leaves(y -> 0, want, y -> y.ease(persons, i));
                        }
                        found++;
                    }
                }
                EDGES.equal(found, x.ease(persons, -1), "how many");
                EDGES.equal(NONE, x.ease(persons, found), "none such");
            }
        }
    }

    private static boolean isEasy(int set, int persons, int seats) {
        int kept = 0;
        for (int person = 0; person < seats; person++) {
            int hands = set >> 2 * person & 3;
            if (hands == 3 || hands != 0 && (persons >> person & 1) == 0) {
                return false;
            }
            kept |= hands != 0 ? 1 << person : 0;
        }
        int turned = kept << 1 & (1 << seats) - 1 | kept >> seats - 1;
        return (kept & turned) == 0;
    }

    private static void fair() {
        EDGES.promise(40, Edges::sitting);
        EDGES.says("NONE: no such set");
        for (int n : new int[] {-1, 8, MIN, MAX}) {
            EDGES.refused(0, x -> x.fair(n, 1, 1000000, 0, 0, 0, 9));
        }
        EDGES.asked(0, x -> x.fair(0, 1, 1000000, 0, 0, 0, 9));
        EDGES.asked(0, x -> x.fair(7, 1, 1000000, 0, 0, 0, 9));
        EDGES.says("NONE: no such THING");
        for (int n : new int[] {-1, 2, MIN, MAX}) {
            EDGES.refused(0, x -> x.fair(0, 1, 1000000, n, 0, 0, 9));
        }
        EDGES.says("NONE: no such SPOT");
        for (int n : new int[] {-1, 6, MIN, MAX}) {
            EDGES.refused(0, x -> x.fair(0, 1, 1000000, 0, n, 0, 9));
        }
        EDGES.says("NONE: no such SECONDS");
        for (int[] span : BAD_SPANS) {
            EDGES.refused(0, x -> x.fair(0, 1, 1000000, 0, 0, span[0], span[1]));
        }
        EDGES.says("NONE: h below 0");
        for (int n : new int[] {-1, MIN}) {
            EDGES.refused(0, x -> x.fair(0, n, 1000000, 0, 0, 0, 9));
        }
        EDGES.asked(0, x -> x.fair(0, 0, 1000000, 0, 0, 0, 9));
        EDGES.says("NONE: LIMIT not 0 to 1,000,000");
        for (int n : new int[] {-1, 1000001, MIN, MAX}) {
            EDGES.refused(0, x -> x.fair(0, 1, n, 0, 0, 0, 9));
        }
        EDGES.asked(2, x -> x.fair(0, 1, 0, 0, 0, 0, 9));
    }

    private static void fairOrder() {
        EDGES.promise(40, x -> {
            x.thing(0);
            Edges.tell(x, "way a dark 3;");
            x.light(50, 50, 3);
            x.control(1, 0, 4, 50, 50, 1);
            x.trial(4, 1);
            x.trial(3, 2);
        });
        EDGES.says("FAIR (0)");
        EDGES.asked(0, x -> x.fair(1, 2, 166666, 0, 3, 0, 99));
        EDGES.asked(0, x -> x.fair(0, 2, 166666, 0, 3, 0, 49));
        EDGES.says("1 they don't");
        EDGES.asked(1, x -> x.fair(0, 2, 166666, 0, 3, 0, 99));
        EDGES.asked(1, x -> x.fair(0, 2, 166666, 0, 3, 0, 50));
        EDGES.says("CHANCE for h isn't above LIMIT; 2 CHANCE is above it");
        EDGES.asked(2, x -> x.fair(1, 2, 166665, 0, 3, 0, 99));
        EDGES.asked(0, x -> x.fair(1, 1, 750000, 0, 3, 0, 99));
        EDGES.asked(2, x -> x.fair(1, 1, 749999, 0, 3, 0, 99));
        EDGES.asked(2, x -> x.fair(1, 0, 999999, 0, 3, 0, 99));
        EDGES.asked(0, x -> x.fair(1, 0, 1000000, 0, 3, 0, 99));
        EDGES.says("there are h TRIALS or more; 3 there are fewer");
        EDGES.asked(3, x -> x.fair(1, 3, 0, 0, 3, 0, 99));
        EDGES.asked(3, x -> x.fair(1, MAX, 1000000, 0, 3, 0, 99));
        EDGES.leaves(x -> x.trial(20, 1), 0, x -> x.fair(1, 3, 10000, 0, 3, 0, 99));
        EDGES.says("else the first of");
        EDGES.asked(1, x -> x.fair(0, 2, 0, 0, 3, 0, 99));
        EDGES.asked(1, x -> x.fair(0, 3, 0, 0, 3, 0, 99));
        EDGES.says("no TRIALS");
        EDGES.scene(x -> x.thing(0));
        EDGES.asked(0, x -> x.fair(0, 0, 1000000, 0, 3, 0, 99));
        EDGES.asked(2, x -> x.fair(0, 0, 999999, 0, 3, 0, 99));
        EDGES.asked(3, x -> x.fair(0, 1, 0, 0, 3, 0, 99));
    }

    private static void status() {
        EDGES.promise(41, Edges::sitting);
        EDGES.says("NONE for another one");
        for (int n : new int[] {0, 6, -1, MIN, MAX}) {
            EDGES.refused(0, x -> x.status(n));
        }
        EDGES.says("how many calls were refused by a reason (1 to 5)");
        EDGES.scene(x -> {
            for (int i = 0; i < 5; i++) {
                x.restore(0);
            }
            for (int i = 0; i < 4; i++) {
                Edges.tell(x, "#");
            }
            for (int i = 0; i < 11; i++) {
                x.thing(0);
            }
            x.room(2);
            x.room(10);
            x.image(3);
        });
        for (int i = 1; i <= 5; i++) {
            int reason = i;
            EDGES.asked(reason, x -> x.status(reason));
        }
        EDGES.says("STATUS isn't in an IMAGE");
        EDGES.leaves(x -> bit(x.image(0) && x.restore(0)), 5, x -> x.status(5));
        EDGES.leaves(x -> bit(x.image(0) && !x.image(3) && x.restore(0)), 2, x -> x.status(1));
    }

    private static void count() {
        EDGES.promise(42, Edges::sitting);
        EDGES.says("NONE for others");
        for (int n : new int[] {-1, 11, MIN, MAX}) {
            EDGES.refused(0, x -> x.count(n));
        }
        int[] all = {5, 1, 2, 2, 2, 1, 2, 3, 3, 2, 20};
        for (int i = 0; i < all.length; i++) {
            int what = i;
            EDGES.says("count " + what);
            EDGES.asked(all[what], x -> x.count(what));
        }
    }

    private ControlsEdgesTest() {
    }
}
