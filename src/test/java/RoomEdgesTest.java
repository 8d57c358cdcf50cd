/** The edges that promises 1 to 16 name: the last input that is taken, the first that is refused, on each side. */
public final class RoomEdgesTest {
    private static final int NONE = Edges.NONE;
    private static final int MAX = Edges.MAX;
    private static final int MIN = Edges.MIN;
    private static final Edges EDGES = new Edges();

    public static void main(String[] args) {
        newObject();
        room();
        roomClears();
        person();
        needs();
        light();
        attend();
        lead();
        leads();
        hold();
        holds();
        thing();
        move();
        movesNotSo();
        rings();
        where();
        saw();
        at();
        vouch();
        gap();
        gapRuns();
        image();
        restore();
        EDGES.end();
    }

    private static int bit(boolean so) {
        return Edges.bit(so);
    }

    /** SECONDS from one to one: both are SECONDS, the first isn't above the other (2). */
    private interface Span {
        long on(RapTable x, int from, int to);
    }

    private static void spans(boolean says, Span call) {
        EDGES.says("SECONDS from one to one: both are SECONDS, the first isn't above the other (2)");
        int[][] bad = {{-1, 5}, {-1, -1}, {0, 100}, {100, 100}, {6, 5}, {99, 0}, {MIN, 5}, {5, MAX}, {MAX, MIN}};
        for (int[] span : bad) {
            if (says) {
                EDGES.denied(2, x -> call.on(x, span[0], span[1]));
            } else {
                EDGES.refused(2, x -> call.on(x, span[0], span[1]));
            }
        }
    }

    private static void newObject() {
        EDGES.promise(1, x -> { });
        EDGES.says("Three SEATS, and all as at first");
        EDGES.asked(3, x -> x.count(0));
        for (int i = 1; i <= 10; i++) {
            int what = i;
            EDGES.asked(0, x -> x.count(what));
        }
        for (int i = 1; i <= 5; i++) {
            int reason = i;
            EDGES.asked(0, x -> x.status(reason));
        }
        EDGES.says("as at first, whatever other objects were told");
        EDGES.alike(x -> { }, x -> {
            RapTable other = new RapTable();
            Edges.sitting(other);
            other.room(9);
            other.image(2);
        });
        EDGES.says("LIGHT of a SECOND: 9 at first");
        EDGES.asked(9, x -> x.at(0, 0, 0));
        EDGES.asked(9, x -> x.at(0, 0, 99));
        EDGES.says("NEED: 5 at first");
        EDGES.leaves(x -> bit(x.light(0, 0, 5) && x.attend(2, 0, 0, 0)), 4, x -> x.vouch(0, 0, true));
        EDGES.leaves(x -> bit(x.light(0, 0, 4) && x.attend(2, 0, 0, 0)), 0, x -> x.vouch(0, 0, true));
        EDGES.says("FIRM: 0 at first");
        EDGES.leaves(x -> x.lead(1, 1, 0, 0), 1, x -> x.at(5, 2, 0));
        EDGES.says("EYES: none (at first)");
        EDGES.asked(NONE, x -> x.at(1, 2, 99));
        EDGES.says("none at first: what HANDS hold");
        EDGES.asked(NONE, x -> x.at(3, 5, 0));
        EDGES.asked(NONE, x -> x.at(4, 5, 99));
        EDGES.says("LOSS 0, SMOOTH 0 (as at first)");
        EDGES.asked(0, x -> x.count(5));
        EDGES.asked(0, x -> x.count(6));
        EDGES.says("IMAGES: none at first");
        EDGES.denied(5, x -> bit(x.restore(0)));
        EDGES.denied(5, x -> bit(x.restore(2)));
        EDGES.says("its FAULT (0), its place (NONE)");
        EDGES.asked(0, x -> x.fault(0));
        EDGES.asked(NONE, x -> x.fault(1));
        EDGES.says("no THINGS, WAYS, REPORTS, CONTROLS at first");
        EDGES.asked(NONE, x -> x.where(0, 0));
        EDGES.asked(NONE, x -> x.way(0, 0));
        EDGES.asked(NONE, x -> x.right(0));
        EDGES.asked(NONE, x -> x.opens(0, 0, 0, 0, 0));
        EDGES.says("no TRIALS at first: one empty row");
        EDGES.asked(1, x -> x.luck(-1));
        EDGES.asked(0, x -> x.luck(1));
    }

    private static void room() {
        EDGES.promise(2, Edges::sitting);
        EDGES.says("SEATS, 3 to 9");
        for (int n : new int[] {2, 10, 0, -1, -3, MIN, MAX}) {
            EDGES.denied(2, x -> bit(x.room(n)));
        }
        for (int n : new int[] {3, 4, 8, 9}) {
            EDGES.taken(1, x -> bit(x.room(n)));
            EDGES.leaves(x -> bit(x.room(n)), n, x -> x.count(0));
            EDGES.says("the last and first SPOT, HAND and PERSON of " + n);
            EDGES.leaves(x -> bit(x.room(n)), 0, x -> x.thing(n));
            EDGES.leaves(x -> bit(x.room(n)), NONE, x -> x.thing(n + 1));
            EDGES.leaves(x -> bit(x.room(n)), 1, x -> x.at(2, 2 * n - 1, 0));
            EDGES.leaves(x -> bit(x.room(n)), NONE, x -> x.at(2, 2 * n, 0));
            EDGES.leaves(x -> bit(x.room(n)), 0, x -> x.at(5, n - 1, 0));
            EDGES.leaves(x -> bit(x.room(n)), NONE, x -> x.at(5, n, 0));
        }
    }

    private static void roomClears() {
        EDGES.promise(2, Edges::sitting);
        EDGES.says("all is as at first but that (and THE TAPE, the WAYS, STATUS)");
        for (int n : new int[] {3, 5, 9}) {
            EDGES.alike(x -> {
                Edges.sitting(x);
                x.image(0);
                x.room(n);
            }, x -> {
                Edges.tell(x, "way a free left move left 2;way b dark 5 wait 3;memory 1 2;");
                Edges.feed(x, "way c wait 7;");
                x.room(n);
            });
        }
        EDGES.says("STATUS stays");
        Edges.Scene refusedOften = x -> {
            x.image(3);
            x.room(2);
            for (int i = 0; i < 9; i++) {
                x.thing(0);
            }
            Edges.tell(x, "#");
            x.restore(0);
        };
        EDGES.scene(refusedOften);
        for (int i = 1; i <= 5; i++) {
            int reason = i;
            EDGES.leaves(x -> bit(x.room(9)), 1, x -> x.status(reason));
        }
        EDGES.says("what HANDS of a greater ring held is gone");
        EDGES.promise(2, x -> {
            x.room(9);
            x.hold(17, 0, 0, 0, 99);
            x.attend(8, 0, 0, 99);
            x.room(3);
        });
        EDGES.asked(1, x -> x.at(2, 0, 0));
        EDGES.asked(0, x -> x.vouch(0, 0, true));
        EDGES.leaves(x -> bit(x.room(9)), 0, x -> x.vouch(0, 0, true));
        EDGES.leaves(x -> bit(x.room(9)), NONE, x -> x.at(1, 8, 0));
    }

    private static void person() {
        EDGES.promise(3, Edges::sitting);
        EDGES.says("NEED and FIRM of a PERSON: false: 1");
        for (int n : new int[] {-1, 5, MIN, MAX}) {
            EDGES.denied(1, x -> bit(x.person(n, 5, 5)));
        }
        EDGES.taken(1, x -> bit(x.person(0, 5, 5)));
        EDGES.taken(1, x -> bit(x.person(4, 5, 5)));
        EDGES.says("NEED of a PERSON (0 to 9)");
        for (int n : new int[] {-1, 10, MIN, MAX}) {
            EDGES.denied(2, x -> bit(x.person(0, n, 0)));
        }
        EDGES.taken(1, x -> bit(x.person(0, 0, 0)));
        EDGES.taken(1, x -> bit(x.person(0, 9, 0)));
        EDGES.says("FIRM of a PERSON: 0 to 9");
        for (int n : new int[] {-1, 10, MIN, MAX}) {
            EDGES.denied(2, x -> bit(x.person(0, 0, n)));
        }
        EDGES.taken(1, x -> bit(x.person(0, 0, 9)));
        EDGES.says("of several the least");
        EDGES.denied(1, x -> bit(x.person(5, 10, 0)));
        EDGES.denied(1, x -> bit(x.person(-1, 0, -1)));
        EDGES.denied(2, x -> bit(x.person(0, 10, 10)));
        EDGES.says("of one PERSON alone");
        EDGES.promise(3, x -> {
            x.person(1, 9, 9);
            x.attend(0, 2, 0, 0);
            x.attend(1, 2, 0, 0);
            x.light(0, 0, 5);
        });
        EDGES.asked(1, x -> x.vouch(4, 0, true));
    }

    private static void needs() {
        EDGES.promise(3, x -> x.attend(1, 0, 0, 99));
        EDGES.says("it can see in a SECOND whose LIGHT is NEED or more");
        for (int i = 0; i <= 9; i++) {
            int need = i;
            EDGES.leaves(x -> bit(x.person(1, need, 0) && x.light(7, 7, need)), 2, x -> x.vouch(0, 7, true));
            if (need > 0) {
                EDGES.leaves(x -> bit(x.person(1, need, 0) && x.light(7, 7, need - 1)), 0, x -> x.vouch(0, 7, true));
            }
            if (need < 9) {
                EDGES.leaves(x -> bit(x.person(1, need, 0) && x.light(7, 7, need + 1)), 2, x -> x.vouch(0, 7, true));
            }
        }
    }

    private static void light() {
        EDGES.promise(4, Edges::sitting);
        spans(true, (x, from, to) -> bit(x.light(from, to, 3)));
        EDGES.says("LIGHT of a SECOND: 0 to 9");
        for (int v : new int[] {-1, 10, MIN, MAX}) {
            EDGES.denied(2, x -> bit(x.light(5, 6, v)));
        }
        EDGES.denied(2, x -> bit(x.light(6, 5, 10)));
        for (int v : new int[] {0, 9}) {
            EDGES.taken(1, x -> bit(x.light(5, 6, v)));
            EDGES.leaves(x -> bit(x.light(5, 6, v)), v, x -> x.at(0, 0, 5));
        }
        EDGES.says("SECONDS are 0 to 99");
        EDGES.taken(1, x -> bit(x.light(0, 99, 3)));
        EDGES.taken(1, x -> bit(x.light(0, 0, 3)));
        EDGES.taken(1, x -> bit(x.light(99, 99, 3)));
        EDGES.leaves(x -> bit(x.light(0, 0, 3)), 3, x -> x.at(0, 0, 0));
        EDGES.leaves(x -> bit(x.light(0, 0, 3)), 9, x -> x.at(0, 0, 1));
        EDGES.leaves(x -> bit(x.light(99, 99, 3)), 3, x -> x.at(0, 0, 99));
        EDGES.leaves(x -> bit(x.light(99, 99, 3)), 9, x -> x.at(0, 0, 98));
        EDGES.says("LIGHT of SECONDS from one to one");
        int[] around = {9, 3, 3, 9};
        for (int i = 0; i < 4; i++) {
            int second = 49 + i;
            EDGES.leaves(x -> bit(x.light(50, 51, 3)), around[i], x -> x.at(0, 0, second));
        }
    }

    private static void attend() {
        EDGES.promise(5, Edges::sitting);
        spans(true, (x, from, to) -> bit(x.attend(0, 3, from, to)));
        EDGES.says("EYES of a PERSON: false: 1");
        for (int n : new int[] {-1, 5, MIN, MAX}) {
            EDGES.denied(1, x -> bit(x.attend(n, 0, 0, 9)));
        }
        EDGES.taken(1, x -> bit(x.attend(0, 0, 0, 9)));
        EDGES.taken(1, x -> bit(x.attend(4, 0, 0, 9)));
        EDGES.says("at a SPOT (NONE: at none)");
        for (int n : new int[] {-2, 6, MIN, MAX}) {
            EDGES.denied(1, x -> bit(x.attend(0, n, 0, 9)));
        }
        for (int n : new int[] {NONE, 0, 5}) {
            EDGES.taken(1, x -> bit(x.attend(3, n, 0, 99)));
            EDGES.leaves(x -> bit(x.attend(3, n, 0, 99)), n, x -> x.at(1, 3, 0));
            EDGES.leaves(x -> bit(x.attend(3, n, 0, 99)), n, x -> x.at(1, 3, 99));
        }
        EDGES.says("of several the least");
        EDGES.denied(1, x -> bit(x.attend(5, 0, 9, 0)));
        EDGES.denied(1, x -> bit(x.attend(0, 6, 0, 100)));
        EDGES.says("in SECONDS");
        int[] around = {2, 4, 4, 2};
        for (int i = 0; i < 4; i++) {
            int second = 59 + i;
            EDGES.leaves(x -> bit(x.attend(3, 4, 60, 61)), around[i], x -> x.at(1, 3, second));
        }
        EDGES.leaves(x -> bit(x.attend(3, 4, 0, 0)), 2, x -> x.at(1, 3, 1));
        EDGES.leaves(x -> bit(x.attend(3, 4, 99, 99)), 2, x -> x.at(1, 3, 98));
        EDGES.leaves(x -> bit(x.attend(3, 4, 99, 99)), NONE, x -> x.at(1, 4, 0));
        EDGES.leaves(x -> bit(x.attend(3, 4, 0, 0)), NONE, x -> x.at(1, 2, 99));
    }

    private static void elevenLeads(RapTable x) {
        Edges.sitting(x);
        for (int i = 0; i < 10; i++) {
            x.lead(i % 6, 1 + i % 9, i, 50 + i);
        }
    }

    private static void twelveLeads(RapTable x) {
        elevenLeads(x);
        x.lead(5, 9, 60, 60);
    }

    private static void lead() {
        EDGES.promise(6, Edges::sitting);
        spans(false, (x, from, to) -> x.lead(0, 5, from, to));
        EDGES.says("NONE: 1 (no such SPOT)");
        for (int n : new int[] {-1, 6, MIN, MAX}) {
            EDGES.refused(1, x -> x.lead(n, 5, 0, 9));
        }
        EDGES.taken(1, x -> x.lead(0, 5, 0, 9));
        EDGES.taken(1, x -> x.lead(5, 5, 0, 9));
        EDGES.says("a PULL (1 to 9)");
        for (int n : new int[] {0, 10, -1, MIN, MAX}) {
            EDGES.refused(2, x -> x.lead(0, n, 0, 9));
        }
        EDGES.taken(1, x -> x.lead(0, 1, 0, 0));
        EDGES.taken(1, x -> x.lead(0, 9, 99, 99));
        EDGES.says("of several the least: 1 ahead of 2");
        EDGES.refused(1, x -> x.lead(6, 0, 0, 9));
        EDGES.refused(1, x -> x.lead(-1, 5, 9, 0));
        EDGES.says("LEADS, at most 12");
        EDGES.scene(RoomEdgesTest::elevenLeads);
        EDGES.taken(11, x -> x.lead(5, 9, 60, 60));
        EDGES.leaves(x -> x.lead(5, 9, 60, 60), 12, x -> x.count(1));
        EDGES.leaves(x -> x.lead(5, 9, 60, 60), 5, x -> x.at(1, 0, 60));
        EDGES.scene(RoomEdgesTest::twelveLeads);
        EDGES.refused(3, x -> x.lead(0, 9, 61, 61));
        EDGES.says("of several the least: 1 and 2 ahead of 3");
        EDGES.refused(1, x -> x.lead(6, 9, 61, 61));
        EDGES.refused(2, x -> x.lead(0, 10, 61, 61));
        EDGES.refused(2, x -> x.lead(0, 9, 61, 60));
        EDGES.refused(1, x -> x.lead(6, 0, 61, 60));
    }

    private static void leads() {
        EDGES.promise(6, x -> { });
        EDGES.says("each PERSON whose FIRM is below PULL");
        for (int i = 1; i <= 9; i++) {
            int pull = i;
            EDGES.leaves(x -> bit(x.person(1, 5, pull - 1) && x.lead(3, pull, 5, 5) == 0), 3, x -> x.at(1, 1, 5));
            EDGES.leaves(x -> bit(x.person(1, 5, pull) && x.lead(3, pull, 5, 5) == 0), NONE, x -> x.at(1, 1, 5));
        }
        EDGES.says("SECONDS from one to one");
        int[] around = {NONE, 2, 2, NONE};
        for (int i = 0; i < 4; i++) {
            int second = 9 + i;
            EDGES.leaves(x -> x.lead(2, 1, 10, 11), around[i], x -> x.at(1, 0, second));
        }
        EDGES.leaves(x -> x.lead(2, 1, 0, 99), 2, x -> x.at(1, 0, 0));
        EDGES.leaves(x -> x.lead(2, 1, 0, 99), 2, x -> x.at(1, 0, 99));
        EDGES.says("of several the one that begins latest");
        EDGES.scene(x -> {
            x.lead(1, 1, 10, 20);
            x.lead(2, 9, 9, 30);
            x.attend(0, 3, 0, 99);
        });
        EDGES.asked(3, x -> x.at(1, 0, 8));
        EDGES.asked(2, x -> x.at(1, 0, 9));
        EDGES.asked(1, x -> x.at(1, 0, 10));
        EDGES.asked(1, x -> x.at(1, 0, 20));
        EDGES.asked(2, x -> x.at(1, 0, 21));
        EDGES.says("without one they are where they were told to be");
        EDGES.asked(3, x -> x.at(1, 0, 31));
        EDGES.says("of like ones that told last");
        EDGES.leaves(x -> x.lead(0, 1, 10, 10), 0, x -> x.at(1, 0, 10));
        EDGES.leaves(x -> x.lead(0, 1, 10, 10), 1, x -> x.at(1, 0, 11));
        EDGES.says("of those whose PULL is above FIRM");
        EDGES.leaves(x -> bit(x.person(0, 5, 1)), 2, x -> x.at(1, 0, 15));
        EDGES.leaves(x -> bit(x.person(0, 5, 9)), 3, x -> x.at(1, 0, 15));
        EDGES.says("where they were told to be, also while led");
        EDGES.leaves(x -> bit(x.attend(0, 0, 10, 10)), 1, x -> x.at(1, 0, 10));
        EDGES.leaves(x -> bit(x.attend(0, 0, 10, 10) && x.person(0, 5, 9)), 0, x -> x.at(1, 0, 10));
    }

    private static void hold() {
        EDGES.promise(7, Edges::sitting);
        spans(true, (x, from, to) -> bit(x.hold(0, 2, 4, from, to)));
        spans(true, (x, from, to) -> bit(x.hold(2, NONE, NONE, from, to)));
        EDGES.says("1 (no such HANDS)");
        for (int n : new int[] {-1, 10, MIN, MAX}) {
            EDGES.denied(1, x -> bit(x.hold(n, 2, 4, 0, 9)));
            EDGES.denied(1, x -> bit(x.hold(n, NONE, NONE, 0, 9)));
        }
        for (int n : new int[] {-2, 10, MIN, MAX}) {
            EDGES.denied(1, x -> bit(x.hold(0, n, 4, 0, 9)));
            EDGES.denied(1, x -> bit(x.hold(0, 2, n, 0, 9)));
            EDGES.denied(1, x -> bit(x.hold(0, n, n, 0, 9)));
            EDGES.denied(1, x -> bit(x.hold(0, n, NONE, 0, 9)));
            EDGES.denied(1, x -> bit(x.hold(0, NONE, n, 0, 9)));
        }
        EDGES.taken(1, x -> bit(x.hold(0, 2, 9, 0, 9)));
        EDGES.taken(1, x -> bit(x.hold(9, 0, 0, 0, 9)));
        EDGES.taken(1, x -> bit(x.hold(0, 9, 9, 0, 9)));
        EDGES.says("1 (just one is NONE)");
        EDGES.denied(1, x -> bit(x.hold(0, NONE, 2, 0, 9)));
        EDGES.denied(1, x -> bit(x.hold(0, 2, NONE, 0, 9)));
        EDGES.says("both NONE: it holds none");
        EDGES.taken(1, x -> bit(x.hold(4, NONE, NONE, 0, 99)));
        EDGES.leaves(x -> bit(x.hold(4, NONE, NONE, 6, 6)), NONE, x -> x.at(3, 4, 6));
        EDGES.leaves(x -> bit(x.hold(4, NONE, NONE, 6, 6)), NONE, x -> x.at(4, 4, 6));
        EDGES.leaves(x -> bit(x.hold(4, NONE, NONE, 6, 6)), 3, x -> x.at(3, 4, 5));
        EDGES.leaves(x -> bit(x.hold(4, NONE, NONE, 6, 6)), 8, x -> x.at(4, 4, 7));
        EDGES.says("5 (SEEMS is of no neighbour)");
        for (int n : new int[] {4, 5, 6, 7, 0, 1}) {
            EDGES.denied(5, x -> bit(x.hold(0, n, 2, 0, 9)));
        }
        for (int n : new int[] {2, 3, 8, 9}) {
            EDGES.taken(1, x -> bit(x.hold(0, n, 2, 0, 9)));
        }
        EDGES.says("5 (TRULY is its own PERSON's)");
        EDGES.denied(5, x -> bit(x.hold(0, 2, 0, 0, 9)));
        EDGES.denied(5, x -> bit(x.hold(0, 2, 1, 0, 9)));
        EDGES.denied(5, x -> bit(x.hold(1, 2, 0, 0, 9)));
        EDGES.denied(5, x -> bit(x.hold(9, 0, 8, 0, 9)));
        EDGES.says("TRULY holds a HAND of another PERSON, neighbour or not");
        for (int n = 2; n < 10; n++) {
            int truly = n;
            EDGES.taken(1, x -> bit(x.hold(0, 2, truly, 0, 9)));
        }
        EDGES.says("of several the least");
        EDGES.denied(1, x -> bit(x.hold(10, 4, 0, 9, 0)));
        EDGES.denied(1, x -> bit(x.hold(0, NONE, 2, 9, 0)));
        EDGES.denied(1, x -> bit(x.hold(0, 4, 10, 0, 9)));
        EDGES.denied(2, x -> bit(x.hold(0, 4, 2, 9, 0)));
        EDGES.denied(2, x -> bit(x.hold(0, 2, 1, 0, 100)));
    }

    private static void holds() {
        EDGES.promise(7, x -> {
            x.room(4);
            x.hold(2, 1, 7, 10, 12);
        });
        EDGES.says("in SECONDS");
        int[] truly = {NONE, 7, 7, 7, NONE};
        int[] free = {1, 0, 0, 0, 1};
        for (int i = 0; i < 5; i++) {
            int second = 9 + i;
            int seems = truly[i] == NONE ? NONE : 1;
            EDGES.asked(truly[i], x -> x.at(4, 2, second));
            EDGES.asked(seems, x -> x.at(3, 2, second));
            EDGES.says("FREE, if it TRULY holds none, no HAND TRULY holds it");
            EDGES.asked(free[i], x -> x.at(2, 2, second));
            EDGES.asked(free[i], x -> x.at(2, 7, second));
            EDGES.asked(1, x -> x.at(2, 1, second));
        }
        EDGES.says("no other HAND holds for that");
        EDGES.asked(NONE, x -> x.at(4, 7, 11));
        EDGES.asked(NONE, x -> x.at(4, 1, 99));
        EDGES.asked(NONE, x -> x.at(4, 3, 0));
        EDGES.leaves(x -> bit(x.hold(2, 0, 6, 0, 99)), 6, x -> x.at(4, 2, 99));
        EDGES.leaves(x -> bit(x.hold(2, 0, 6, 0, 99)), NONE, x -> x.at(4, 3, 0));
        EDGES.leaves(x -> bit(x.hold(2, 0, 6, 0, 99)), NONE, x -> x.at(4, 1, 99));
        EDGES.says("told anew");
        EDGES.leaves(x -> bit(x.hold(2, 0, 6, 11, 11)), 1, x -> x.at(2, 7, 11));
        EDGES.leaves(x -> bit(x.hold(2, 0, 6, 11, 11)), 0, x -> x.at(2, 7, 12));
    }

    private static void sevenThings(RapTable x) {
        x.room(4);
        for (int i = 0; i < 7; i++) {
            x.thing(i % 5);
        }
    }

    private static void eightThings(RapTable x) {
        sevenThings(x);
        x.thing(4);
    }

    private static void thing() {
        EDGES.promise(8, x -> x.room(5));
        EDGES.says("A THING more at a SPOT: NONE: 1");
        for (int n : new int[] {-1, 6, MIN, MAX}) {
            EDGES.refused(1, x -> x.thing(n));
        }
        EDGES.taken(0, x -> x.thing(0));
        EDGES.taken(0, x -> x.thing(5));
        EDGES.leaves(x -> x.thing(5), 5, x -> x.where(0, NONE));
        EDGES.says("THINGS, at most 8");
        EDGES.scene(RoomEdgesTest::sevenThings);
        EDGES.taken(7, x -> x.thing(4));
        EDGES.leaves(x -> x.thing(4), 8, x -> x.count(2));
        EDGES.leaves(x -> x.thing(4), 4, x -> x.where(7, 99));
        EDGES.scene(RoomEdgesTest::eightThings);
        EDGES.refused(3, x -> x.thing(0));
        EDGES.says("of several the least: 1 ahead of 3");
        EDGES.refused(1, x -> x.thing(5));
        EDGES.says("5 (there are MOVES)");
        EDGES.scene(Edges::sitting);
        EDGES.refused(5, x -> x.thing(0));
        EDGES.says("of several the least: 1 ahead of 5");
        EDGES.refused(1, x -> x.thing(6));
        EDGES.says("of several the least: 3 ahead of 5");
        EDGES.scene(x -> {
            eightThings(x);
            x.move(0, 0, 4, 9);
        });
        EDGES.refused(3, x -> x.thing(0));
        EDGES.refused(1, x -> x.thing(-1));
        EDGES.says("there are none after restore()");
        EDGES.scene(x -> {
            x.image(0);
            x.thing(0);
            x.move(0, 0, 3, 9);
            x.restore(0);
        });
        EDGES.taken(0, x -> x.thing(3));
    }

    private static void manyMoves(RapTable x, int moves) {
        x.room(4);
        x.thing(0);
        x.thing(1);
        for (int i = 0; i < moves; i++) {
            x.move(0, 0, i % 2 == 0 ? 4 : 0, 30 + i);
        }
    }

    private static void move() {
        EDGES.promise(9, Edges::sitting);
        EDGES.says("1 (no such HAND)");
        for (int n : new int[] {-1, 10, MIN, MAX}) {
            EDGES.refused(1, x -> x.move(n, 0, 0, 60));
        }
        EDGES.taken(2, x -> x.move(0, 0, 0, 60));
        EDGES.taken(2, x -> x.move(9, 0, 0, 60));
        EDGES.says("1 (no such THING)");
        for (int n : new int[] {-1, 2, MIN, MAX}) {
            EDGES.refused(1, x -> x.move(0, n, 0, 60));
        }
        EDGES.taken(2, x -> x.move(0, 1, 0, 60));
        EDGES.says("1 (no such SPOT)");
        for (int n : new int[] {-1, 6, MIN, MAX}) {
            EDGES.refused(1, x -> x.move(0, 0, n, 60));
        }
        EDGES.says("2 (no such SECOND)");
        for (int n : new int[] {-1, 100, MIN, MAX}) {
            EDGES.refused(2, x -> x.move(0, 0, 0, n));
        }
        EDGES.taken(2, x -> x.move(0, 0, 0, 99));
        EDGES.says("of several the least: 1 ahead of 2, 2 ahead of 5");
        EDGES.refused(1, x -> x.move(0, 0, 6, 100));
        EDGES.refused(1, x -> x.move(0, 2, 0, 0));
        EDGES.refused(2, x -> x.move(0, 0, 5, -1));
        EDGES.says("SECOND 0");
        EDGES.scene(x -> x.thing(0));
        EDGES.taken(0, x -> x.move(0, 0, 3, 0));
        EDGES.leaves(x -> x.move(0, 0, 3, 0), 3, x -> x.where(0, 0));
        EDGES.says("MOVES, at most 40");
        EDGES.scene(x -> manyMoves(x, 39));
        EDGES.taken(39, x -> x.move(2, 0, 1, 99));
        EDGES.leaves(x -> x.move(2, 0, 1, 99), 40, x -> x.count(3));
        EDGES.leaves(x -> x.move(2, 0, 1, 99), 1, x -> x.where(0, 99));
        EDGES.leaves(x -> x.move(2, 0, 1, 99), 0, x -> x.saw(39, 0));
        EDGES.scene(x -> manyMoves(x, 40));
        EDGES.refused(3, x -> x.move(0, 0, 4, 99));
        EDGES.says("of several the least: 1 and 2 ahead of 3, 3 ahead of 5");
        EDGES.refused(1, x -> x.move(8, 0, 4, 99));
        EDGES.refused(2, x -> x.move(0, 0, 4, 100));
        EDGES.refused(3, x -> x.move(0, 0, 0, 99));
        EDGES.refused(3, x -> x.move(0, 0, 4, 0));
    }

    private static void movesNotSo() {
        EDGES.promise(9, x -> {
            x.room(5);
            x.thing(0);
            x.thing(2);
            x.hold(1, 3, 7, 10, 12);
            x.hold(8, 0, 0, 20, 22);
            x.hold(4, 2, 9, 30, 30);
        });
        EDGES.says("5 (the HAND isn't FREE: it TRULY holds one)");
        EDGES.taken(0, x -> x.move(1, 0, 5, 9));
        EDGES.refused(5, x -> x.move(1, 0, 5, 10));
        EDGES.refused(5, x -> x.move(1, 0, 5, 12));
        EDGES.taken(0, x -> x.move(1, 0, 5, 13));
        EDGES.says("5 (the HAND isn't FREE: it is TRULY held)");
        EDGES.taken(0, x -> x.move(0, 0, 5, 19));
        EDGES.refused(5, x -> x.move(0, 0, 5, 20));
        EDGES.refused(5, x -> x.move(0, 0, 5, 22));
        EDGES.taken(0, x -> x.move(0, 0, 5, 23));
        EDGES.says("a HAND that only SEEMS to be held is FREE");
        EDGES.taken(0, x -> x.move(3, 0, 5, 11));
        EDGES.taken(0, x -> x.move(2, 0, 5, 30));
        EDGES.says("a CONTROL that ties it isn't in force");
        EDGES.leaves(x -> x.control(0, 2, 0, 0, 99, 1), 0, x -> x.move(2, 0, 5, 30));
        EDGES.says("5 (its PERSON doesn't REACH a SPOT: where it lies)");
        EDGES.refused(5, x -> x.move(4, 0, 5, 50));
        EDGES.refused(5, x -> x.move(6, 0, 4, 50));
        EDGES.says("5 (its PERSON doesn't REACH a SPOT: where it goes)");
        EDGES.refused(5, x -> x.move(2, 0, 3, 50));
        EDGES.refused(5, x -> x.move(2, 0, 4, 50));
        EDGES.refused(5, x -> x.move(8, 0, 2, 50));
        EDGES.says("PERSON i REACHES SPOT i, those of its neighbours, and the MIDDLE");
        EDGES.taken(0, x -> x.move(2, 0, 1, 50));
        EDGES.taken(0, x -> x.move(2, 0, 2, 50));
        EDGES.taken(0, x -> x.move(2, 0, 5, 50));
        EDGES.taken(0, x -> x.move(8, 0, 3, 50));
        EDGES.taken(0, x -> x.move(9, 0, 4, 50));
        EDGES.says("5 (the THING lies there)");
        EDGES.refused(5, x -> x.move(2, 0, 0, 50));
        EDGES.refused(5, x -> x.move(4, 1, 2, 50));
        EDGES.says("5 (a MOVE is in a later SECOND)");
        EDGES.scene(x -> {
            x.room(5);
            x.thing(0);
            x.thing(2);
            x.move(2, 1, 1, 50);
        });
        EDGES.refused(5, x -> x.move(0, 0, 5, 49));
        EDGES.refused(5, x -> x.move(0, 0, 5, 0));
        EDGES.taken(1, x -> x.move(0, 0, 5, 50));
        EDGES.taken(1, x -> x.move(0, 0, 5, 51));
        EDGES.says("the THING lies where MOVES have brought it, those of the same SECOND too");
        EDGES.taken(1, x -> x.move(2, 1, 2, 50));
        EDGES.refused(5, x -> x.move(2, 1, 1, 50));
        EDGES.refused(5, x -> x.move(6, 1, 3, 50));
        EDGES.taken(1, x -> x.move(0, 1, 0, 50));
    }

    /** SEATS in a ring: those beside the first and the last are neighbours, in rings of every size. */
    private static void rings() {
        for (int n = 3; n <= 9; n++) {
            int seats = n;
            EDGES.promise(7, x -> x.room(seats));
            for (int p = 0; p < seats; p++) {
                for (int q = 0; q < seats; q++) {
                    int hand = 2 * p + q % 2;
                    int seems = 2 * q + p % 2;
                    int truly = 2 * ((p + 1) % seats);
                    boolean beside = (p + 1) % seats == q || (q + 1) % seats == p;
                    EDGES.says("those in the SEATS beside it are its neighbours");
                    if (beside) {
                        EDGES.taken(1, x -> bit(x.hold(hand, seems, truly, 0, 0)));
                    } else if (seats < 6 || p == 0) {
                        EDGES.denied(5, x -> bit(x.hold(hand, seems, truly, 0, 0)));
                    }
                    EDGES.says("REACHES SPOT i, those of its neighbours, and the MIDDLE");
                    int spot = q;
                    long due = beside || p == q ? 0 : NONE;
                    EDGES.leaves(x -> x.thing(seats), due, x -> x.move(hand, 0, spot, 0));
                    EDGES.leaves(x -> x.thing(spot), due, x -> x.move(hand, 0, seats, 0));
                }
            }
        }
    }

    private static void where() {
        EDGES.promise(10, Edges::sitting);
        EDGES.says("NONE: none such: THING");
        for (int n : new int[] {-1, 2, MIN, MAX}) {
            EDGES.refused(0, x -> x.where(n, 0));
        }
        EDGES.asked(0, x -> x.where(0, 0));
        EDGES.asked(3, x -> x.where(1, 0));
        EDGES.says("NONE: none such: SECOND");
        for (int n : new int[] {-2, 100, MIN, MAX}) {
            EDGES.refused(0, x -> x.where(0, n));
        }
        EDGES.says("up to a SECOND (NONE: at first)");
        EDGES.asked(0, x -> x.where(0, NONE));
        EDGES.asked(0, x -> x.where(0, 11));
        EDGES.asked(5, x -> x.where(0, 12));
        EDGES.asked(5, x -> x.where(0, 99));
        EDGES.says("at first, also with a MOVE in SECOND 0");
        EDGES.scene(x -> {
            x.thing(0);
            x.move(0, 0, 1, 0);
            x.move(0, 0, 2, 0);
        });
        EDGES.asked(0, x -> x.where(0, NONE));
        EDGES.asked(2, x -> x.where(0, 0));
    }

    private static void saw() {
        EDGES.promise(11, Edges::sitting);
        EDGES.says("NONE: none such: MOVE");
        for (int n : new int[] {-1, 2, MIN, MAX}) {
            EDGES.refused(0, x -> x.saw(n, 1));
        }
        EDGES.says("NONE: none such: PERSON");
        for (int n : new int[] {-1, 5, MIN, MAX}) {
            EDGES.refused(0, x -> x.saw(0, n));
        }
        EDGES.says("NONE: the HAND is its own");
        EDGES.refused(0, x -> x.saw(0, 0));
        EDGES.refused(0, x -> x.saw(1, 3));
        EDGES.says("it SEES one of both SPOTS in that SECOND");
        EDGES.asked(1, x -> x.saw(0, 1));
        EDGES.asked(1, x -> x.saw(0, 2));
        EDGES.asked(0, x -> x.saw(0, 3));
        EDGES.asked(0, x -> x.saw(0, 4));
        EDGES.asked(1, x -> x.saw(1, 2));
        EDGES.asked(0, x -> x.saw(1, 1));
        EDGES.leaves(x -> bit(x.attend(4, 0, 11, 11) && x.attend(4, 0, 13, 13)), 0, x -> x.saw(0, 4));
        EDGES.leaves(x -> bit(x.attend(4, 0, 12, 12)), 1, x -> x.saw(0, 4));
        EDGES.leaves(x -> bit(x.attend(4, 5, 12, 12)), 1, x -> x.saw(0, 4));
        EDGES.leaves(x -> bit(x.attend(4, 1, 12, 12)), 0, x -> x.saw(0, 4));
        EDGES.says("by all as it is now");
        EDGES.leaves(x -> bit(x.light(12, 12, 6)), 1, x -> x.saw(0, 1));
        EDGES.leaves(x -> bit(x.light(12, 12, 5)), 0, x -> x.saw(0, 1));
        EDGES.leaves(x -> bit(x.person(1, 9, 2)), 1, x -> x.saw(0, 1));
        EDGES.leaves(x -> x.lead(1, 3, 12, 12), 0, x -> x.saw(0, 1));
        EDGES.leaves(x -> x.lead(1, 2, 12, 12), 1, x -> x.saw(0, 1));
        EDGES.leaves(x -> x.lead(5, 1, 12, 12), 1, x -> x.saw(0, 4));
        EDGES.says("both SPOTS of that MOVE, not of the THING's others");
        EDGES.scene(x -> {
            x.room(5);
            x.thing(0);
            x.move(0, 0, 1, 5);
            x.move(0, 0, 4, 5);
            x.attend(2, 0, 5, 5);
            x.attend(3, 1, 5, 5);
            x.attend(4, 4, 5, 5);
        });
        EDGES.asked(1, x -> x.saw(0, 2));
        EDGES.asked(0, x -> x.saw(1, 2));
        EDGES.asked(1, x -> x.saw(0, 3));
        EDGES.asked(1, x -> x.saw(1, 3));
        EDGES.asked(0, x -> x.saw(0, 4));
        EDGES.asked(1, x -> x.saw(1, 4));
    }

    private static void at() {
        EDGES.promise(12, Edges::sitting);
        EDGES.says("NONE: none such: what");
        for (int n : new int[] {-1, 6, MIN, MAX}) {
            EDGES.refused(0, x -> x.at(n, 0, 0));
        }
        EDGES.says("NONE: none such: SECOND");
        for (int what = 0; what <= 5; what++) {
            int kind = what;
            for (int n : new int[] {-1, 100, MIN, MAX}) {
                EDGES.refused(0, x -> x.at(kind, 0, n));
            }
        }
        EDGES.says("LIGHT of a SECOND (which isn't asked)");
        for (int n : new int[] {-1, 10, MIN, MAX}) {
            EDGES.asked(9, x -> x.at(0, n, 0));
            EDGES.asked(4, x -> x.at(0, n, 20));
        }
        EDGES.says("NONE: none such: PERSON");
        for (int n : new int[] {-1, 5, MIN, MAX}) {
            EDGES.refused(0, x -> x.at(1, n, 32));
            EDGES.refused(0, x -> x.at(5, n, 32));
        }
        EDGES.says("NONE: none such: HAND");
        for (int n : new int[] {-1, 10, MIN, MAX}) {
            EDGES.refused(0, x -> x.at(2, n, 0));
            EDGES.refused(0, x -> x.at(3, n, 0));
            EDGES.refused(0, x -> x.at(4, n, 0));
        }
        EDGES.says("EYES of a PERSON (NONE)");
        EDGES.asked(NONE, x -> x.at(1, 0, 0));
        EDGES.asked(2, x -> x.at(1, 3, 99));
        EDGES.asked(4, x -> x.at(1, 4, 30));
        EDGES.says("whether a HAND is FREE");
        EDGES.asked(1, x -> x.at(2, 9, 99));
        EDGES.asked(0, x -> x.at(2, 0, 9));
        EDGES.asked(1, x -> x.at(2, 0, 10));
        EDGES.says("which HAND it SEEMS, TRULY holds (NONE)");
        EDGES.asked(3, x -> x.at(3, 4, 50));
        EDGES.asked(8, x -> x.at(4, 4, 50));
        EDGES.asked(NONE, x -> x.at(3, 4, 51));
        EDGES.asked(NONE, x -> x.at(4, 4, 51));
        EDGES.says("whether the EYES of a PERSON are led");
        EDGES.asked(0, x -> x.at(5, 1, 29));
        EDGES.asked(1, x -> x.at(5, 1, 30));
        EDGES.asked(1, x -> x.at(5, 1, 34));
        EDGES.asked(0, x -> x.at(5, 1, 35));
        EDGES.asked(0, x -> x.at(5, 0, 30));
        EDGES.says("led to where they are told to be");
        EDGES.leaves(x -> bit(x.attend(4, 4, 0, 99)), 1, x -> x.at(5, 4, 30));
    }

    private static void vouch() {
        EDGES.promise(13, Edges::sitting);
        for (int i = 0; i < 2; i++) {
            boolean truly = i == 0;
            EDGES.says("NONE: none such: HAND");
            for (int n : new int[] {-1, 10, MIN, MAX}) {
                EDGES.refused(0, x -> x.vouch(n, 0, truly));
            }
            EDGES.says("NONE: none such: SECOND");
            for (int n : new int[] {-1, 100, MIN, MAX}) {
                EDGES.refused(0, x -> x.vouch(0, n, truly));
            }
        }
        EDGES.asked(0, x -> x.vouch(9, 99, true));
        EDGES.asked(8, x -> x.vouch(5, 99, true));
        EDGES.asked(2, x -> x.vouch(0, 0, false));
        EDGES.says("for a HAND of another one");
        EDGES.leaves(x -> bit(x.attend(0, 0, 0, 99)), 2, x -> x.vouch(0, 0, true));
        EDGES.leaves(x -> bit(x.attend(0, 0, 0, 99)), 2, x -> x.vouch(1, 0, false));
        EDGES.says("a HAND of its own TRULY holds it; it SAYS so, if one SEEMS to");
        EDGES.asked(4, x -> x.vouch(8, 50, true));
        EDGES.asked(0, x -> x.vouch(8, 50, false));
        EDGES.asked(0, x -> x.vouch(3, 50, true));
        EDGES.asked(4, x -> x.vouch(3, 50, false));
        EDGES.asked(0, x -> x.vouch(8, 51, true));
        EDGES.asked(0, x -> x.vouch(3, 51, false));
        EDGES.says("or SEES the SPOT ahead of that one");
        EDGES.leaves(x -> bit(x.light(0, 0, 6)), 2, x -> x.vouch(1, 0, true));
        EDGES.leaves(x -> bit(x.light(0, 0, 5)), 0, x -> x.vouch(1, 0, true));
        EDGES.leaves(x -> bit(x.light(0, 0, 5)), 0, x -> x.vouch(1, 0, false));
        EDGES.says("all but one of nine");
        EDGES.scene(x -> {
            x.room(9);
            for (int person = 0; person < 9; person++) {
                x.attend(person, 8, 99, 99);
            }
            x.hold(0, 16, 16, 99, 99);
            x.hold(1, 17, 16, 99, 99);
        });
        EDGES.asked(255, x -> x.vouch(16, 99, true));
        EDGES.asked(255, x -> x.vouch(17, 99, false));
        EDGES.says("the MIDDLE lies ahead of nobody");
        EDGES.scene(x -> {
            x.room(3);
            x.attend(0, 3, 0, 99);
        });
        for (int hand = 0; hand < 6; hand++) {
            int which = hand;
            EDGES.asked(0, x -> x.vouch(which, 0, true));
        }
    }

    private static void gap() {
        EDGES.promise(14, Edges::sitting);
        for (int i = 0; i < 2; i++) {
            boolean truly = i == 0;
            EDGES.says("NONE: none such: HAND");
            for (int n : new int[] {-1, 10, MIN, MAX}) {
                EDGES.refused(0, x -> x.gap(n, truly, 0));
            }
            EDGES.says("NONE: none such: what");
            for (int n : new int[] {-1, 4, MIN, MAX}) {
                EDGES.refused(0, x -> x.gap(0, truly, n));
            }
            EDGES.says("GAPS or SEEMING ones of a HAND that nobody watches: all");
            EDGES.asked(100, x -> x.gap(6, truly, 0));
            EDGES.asked(0, x -> x.gap(6, truly, 1));
            EDGES.asked(100, x -> x.gap(6, truly, 2));
            EDGES.asked(0, x -> x.gap(6, truly, 3));
        }
        EDGES.says("the first (NONE)");
        EDGES.scene(x -> x.attend(1, 0, 0, 99));
        for (int i = 0; i < 2; i++) {
            boolean truly = i == 0;
            EDGES.asked(0, x -> x.gap(0, truly, 0));
            EDGES.asked(NONE, x -> x.gap(0, truly, 1));
            EDGES.asked(0, x -> x.gap(0, truly, 2));
            EDGES.asked(0, x -> x.gap(1, truly, 3));
            EDGES.leaves(x -> bit(x.attend(1, NONE, 0, 0)), 0, x -> x.gap(0, truly, 1));
            EDGES.leaves(x -> bit(x.attend(1, NONE, 99, 99)), 99, x -> x.gap(0, truly, 1));
            EDGES.leaves(x -> bit(x.attend(1, NONE, 99, 99)), 1, x -> x.gap(0, truly, 0));
            EDGES.leaves(x -> bit(x.attend(1, NONE, 99, 99)), 1, x -> x.gap(0, truly, 2));
        }
    }

    private static void gapRuns() {
        EDGES.promise(14, x -> x.attend(1, 0, 5, 94));
        EDGES.says("how many follow one another at most: 99 isn't followed by 0");
        EDGES.asked(10, x -> x.gap(0, true, 0));
        EDGES.asked(5, x -> x.gap(0, true, 2));
        EDGES.asked(5, x -> x.gap(0, false, 2));
        EDGES.leaves(x -> bit(x.attend(1, NONE, 50, 55)), 6, x -> x.gap(0, true, 2));
        EDGES.leaves(x -> bit(x.attend(1, NONE, 94, 94)), 6, x -> x.gap(0, true, 2));
        EDGES.says("how many are GAPS in which somebody SAYS it VOUCHES");
        EDGES.scene(x -> {
            x.hold(2, 0, 4, 0, 9);
            x.hold(5, 0, 0, 5, 6);
            x.attend(1, 0, 8, 8);
        });
        EDGES.asked(97, x -> x.gap(0, true, 0));
        EDGES.asked(7, x -> x.gap(0, true, 3));
        EDGES.asked(90, x -> x.gap(0, false, 0));
        EDGES.asked(10, x -> x.gap(0, false, 1));
        EDGES.says("GAPS in which nobody SAYS so aren't counted there");
        EDGES.asked(90, x -> x.gap(4, true, 0));
        EDGES.asked(0, x -> x.gap(4, true, 3));
        EDGES.asked(100, x -> x.gap(4, false, 0));
    }

    private static void image() {
        EDGES.promise(15, Edges::sitting);
        EDGES.says("IMAGES 0 to 2: false: 1");
        for (int n : new int[] {-1, 3, MIN, MAX, 32}) {
            EDGES.denied(1, x -> bit(x.image(n)));
        }
        for (int i = 0; i <= 2; i++) {
            int n = i;
            EDGES.taken(1, x -> bit(x.image(n)));
            EDGES.leaves(x -> bit(x.image(n) && x.room(5)), 0, x -> bit(x.restore(n)));
            EDGES.leaves(x -> bit(x.image(n) && x.light(0, 99, 0)), 1, x -> bit(x.restore(n)));
        }
        EDGES.says("An IMAGE is made: in place of the one that was");
        EDGES.leaves(x -> bit(x.light(0, 0, 1) && x.image(1) && x.light(0, 0, 2) && x.restore(1)), 1, x -> x.at(0, 0, 0));
        EDGES.says("an IMAGE is one of three");
        EDGES.leaves(x -> bit(x.image(2) && x.light(0, 0, 1) && x.image(0) && x.restore(2)), 9, x -> x.at(0, 0, 0));
        EDGES.leaves(x -> bit(x.image(2) && x.light(0, 0, 1) && x.image(0) && x.restore(2) && x.restore(0)), 1,
                x -> x.at(0, 0, 0));
        EDGES.says("it changes nothing else");
        EDGES.alike(RoomEdgesTest::twoImages, x -> {
            twoImages(x);
            x.image(2);
            x.image(0);
        });
    }

    private static void twoImages(RapTable x) {
        Edges.sitting(x);
        x.image(0);
        x.image(2);
    }

    private static void restore() {
        EDGES.promise(16, Edges::sitting);
        EDGES.says("IMAGES 0 to 2: false: 1");
        for (int n : new int[] {-1, 3, MIN, MAX, 32, 33}) {
            EDGES.denied(1, x -> bit(x.restore(n)));
        }
        EDGES.says("5 (none was made since room())");
        EDGES.denied(5, x -> bit(x.restore(0)));
        EDGES.denied(5, x -> bit(x.restore(2)));
        EDGES.taken(1, x -> bit(x.restore(1)));
        EDGES.scene(x -> {
            Edges.sitting(x);
            x.room(5);
        });
        EDGES.denied(5, x -> bit(x.restore(1)));
        EDGES.leaves(x -> bit(x.image(1)), 1, x -> bit(x.restore(1)));
        EDGES.leaves(x -> bit(x.image(1)), 0, x -> bit(x.restore(0)));
        EDGES.says("a room() that is refused leaves IMAGES");
        EDGES.scene(x -> {
            Edges.sitting(x);
            x.room(2);
        });
        EDGES.taken(1, x -> bit(x.restore(1)));
        EDGES.says("All that is in an IMAGE is as it was, and nothing else");
        EDGES.alike(x -> {
            Edges.sitting(x);
            x.image(2);
        }, x -> {
            Edges.sitting(x);
            x.image(2);
            x.person(0, 9, 9);
            x.person(4, 0, 7);
            x.light(0, 99, 1);
            x.attend(0, 1, 0, 99);
            x.attend(3, NONE, 0, 99);
            x.lead(1, 9, 0, 99);
            x.hold(2, NONE, NONE, 0, 99);
            x.hold(9, 0, 1, 0, 99);
            x.move(6, 1, 3, 90);
            x.restore(2);
        });
        EDGES.says("REPORTS, CONTROLS, TRIALS, WAYS, THE TAPE aren't in an IMAGE");
        EDGES.scene(x -> {
            Edges.sitting(x);
            x.report(0, 0, 0, 0, 0, 0, 0);
            x.control(1, 0, 0, 0, 0, 1);
            x.trial(2, 1);
            x.text(0);
            Edges.tell(x, "way z;memory 3 4;");
            Edges.feed(x, "a");
        });
        int[] counts = {5, 1, 2, 1, 1, 3, 4, 4, 4, 3, 20};
        for (int i = 0; i < counts.length; i++) {
            int what = i;
            EDGES.leaves(x -> bit(x.restore(1)), counts[what], x -> x.count(what));
        }
    }

    private RoomEdgesTest() {
    }
}
