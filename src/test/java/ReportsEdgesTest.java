/** The edges that promises 22 to 30 name: REPORTS, STORIES, PASSES, CULPRITS. */
public final class ReportsEdgesTest {
    private static final int NONE = Edges.NONE;
    private static final int MAX = Edges.MAX;
    private static final int MIN = Edges.MIN;
    private static final Edges EDGES = new Edges();

    public static void main(String[] args) {
        report();
        reportOrder();
        right();
        rightHeld();
        honest();
        honestHeld();
        agree();
        stories();
        storiesFit();
        least();
        leastGuarded();
        pass();
        passHops();
        passShortest();
        culprits();
        culpritsFewest();
        record();
        gone();
        EDGES.end();
    }

    private static int bit(boolean so) {
        return Edges.bit(so);
    }

    private static void report() {
        EDGES.promise(22, Edges::sitting);
        EDGES.says("1 (no such PERSON)");
        for (int n : new int[] {-1, 5, MIN, MAX}) {
            EDGES.refused(1, x -> x.report(n, 0, 0, 5, 0, 9, 0));
            EDGES.refused(1, x -> x.report(n, 1, 2, 5, 0, 9, 0));
        }
        EDGES.taken(3, x -> x.report(0, 0, 0, 5, 0, 9, 0));
        EDGES.taken(3, x -> x.report(4, 1, 0, 5, 0, 9, 0));
        EDGES.says("1 (no such kind)");
        for (int n : new int[] {-1, 2, MIN, MAX}) {
            EDGES.refused(1, x -> x.report(4, n, 0, 5, 0, 9, 0));
        }
        EDGES.says("1 (no such THING)");
        for (int n : new int[] {-1, 2, MIN, MAX}) {
            EDGES.refused(1, x -> x.report(4, 0, n, 5, 0, 9, 0));
        }
        EDGES.taken(3, x -> x.report(4, 0, 1, 5, 0, 9, 0));
        EDGES.says("1 (no such SPOT)");
        for (int n : new int[] {-1, 6, MIN, MAX}) {
            EDGES.refused(1, x -> x.report(4, 0, 0, n, 0, 9, 0));
        }
        EDGES.taken(3, x -> x.report(4, 0, 0, 0, 0, 9, 0));
        EDGES.says("1 (no such HAND)");
        for (int n : new int[] {-1, 10, MIN, MAX}) {
            EDGES.refused(1, x -> x.report(2, 1, n, 0, 0, 9, 0));
        }
        EDGES.taken(3, x -> x.report(2, 1, 0, 0, 0, 9, 0));
        EDGES.taken(3, x -> x.report(2, 1, 9, 0, 0, 9, 0));
        EDGES.says("HAND (of another PERSON)");
        EDGES.taken(3, x -> x.report(2, 1, 3, 0, 0, 9, 0));
        EDGES.refused(1, x -> x.report(2, 1, 4, 0, 0, 9, 0));
        EDGES.refused(1, x -> x.report(2, 1, 5, 0, 0, 9, 0));
        EDGES.taken(3, x -> x.report(2, 1, 6, 0, 0, 9, 0));
        EDGES.refused(1, x -> x.report(0, 1, 0, 0, 0, 9, 0));
        EDGES.refused(1, x -> x.report(0, 1, 1, 0, 0, 9, 0));
        EDGES.says("HAND (spot isn't asked)");
        for (int n : new int[] {-1, 6, MIN, MAX}) {
            EDGES.taken(3, x -> x.report(2, 1, 0, n, 0, 9, 0));
        }
        EDGES.says("2 (SECONDS)");
        int[][] bad = {{-1, 5}, {0, 100}, {6, 5}, {MIN, 5}, {5, MAX}, {100, 100}, {-1, -1}};
        for (int[] span : bad) {
            EDGES.refused(2, x -> x.report(4, 0, 0, 5, span[0], span[1], 0));
            EDGES.refused(2, x -> x.report(4, 1, 0, 5, span[0], span[1], 0));
        }
        EDGES.taken(3, x -> x.report(4, 0, 0, 5, 0, 99, 0));
        EDGES.taken(3, x -> x.report(4, 0, 0, 5, 0, 0, 0));
        EDGES.taken(3, x -> x.report(4, 0, 0, 5, 99, 99, 0));
        EDGES.says("a DAY (0 to 30)");
        for (int n : new int[] {-1, 31, MIN, MAX}) {
            EDGES.refused(2, x -> x.report(4, 0, 0, 5, 0, 9, n));
            EDGES.refused(2, x -> x.report(4, 1, 0, 5, 0, 9, n));
        }
        EDGES.taken(3, x -> x.report(4, 0, 0, 5, 0, 9, 30));
        EDGES.taken(3, x -> x.report(4, 1, 0, 5, 0, 9, 30));
    }

    private static void manyReports(RapTable x, int reports) {
        x.thing(0);
        for (int i = 0; i < reports; i++) {
            x.report(i % 3, 0, 0, i % 4, i, 50 + i, i % 31);
        }
    }

    private static void reportOrder() {
        EDGES.promise(22, x -> manyReports(x, 29));
        EDGES.says("REPORTS, at most 30");
        EDGES.taken(29, x -> x.report(0, 1, 2, 0, 0, 9, 0));
        EDGES.leaves(x -> x.report(0, 1, 2, 0, 0, 9, 0), 30, x -> x.count(7));
        EDGES.leaves(x -> x.report(0, 1, 2, 0, 0, 9, 0), 0, x -> x.right(29));
        EDGES.scene(x -> manyReports(x, 30));
        EDGES.refused(3, x -> x.report(0, 1, 2, 0, 0, 9, 0));
        EDGES.refused(3, x -> x.report(0, 0, 0, 0, 0, 9, 0));
        EDGES.says("of several the least: 1 and 2 ahead of 3");
        EDGES.refused(1, x -> x.report(3, 0, 0, 0, 0, 9, 0));
        EDGES.refused(2, x -> x.report(0, 0, 0, 0, 9, 0, 0));
        EDGES.refused(2, x -> x.report(0, 0, 0, 0, 0, 9, 31));
        EDGES.says("of several the least: 1 ahead of 2");
        EDGES.scene(Edges::sitting);
        EDGES.refused(1, x -> x.report(5, 0, 0, 5, 9, 0, 0));
        EDGES.refused(1, x -> x.report(0, 2, 0, 5, 0, 9, 31));
        EDGES.refused(1, x -> x.report(0, 0, 2, 5, 0, 100, 31));
        EDGES.refused(1, x -> x.report(0, 1, 1, 5, -1, 9, 0));
    }

    private static void right() {
        EDGES.promise(23, Edges::sitting);
        EDGES.says("NONE: none such");
        for (int n : new int[] {-1, 3, 30, MIN, MAX}) {
            EDGES.refused(0, x -> x.right(n));
        }
        EDGES.asked(1, x -> x.right(0));
        EDGES.asked(1, x -> x.right(2));
        EDGES.says("there is such a MOVE: within SECONDS a to b");
        int[][] spans = {{12, 12, 1}, {0, 11, 0}, {13, 99, 0}, {0, 12, 1}, {12, 99, 1}};
        for (int[] span : spans) {
            EDGES.leaves(x -> x.report(4, 0, 0, 5, span[0], span[1], 30), span[2], x -> x.right(3));
        }
        EDGES.says("there is such a MOVE: of that THING, to that SPOT");
        EDGES.leaves(x -> x.report(4, 0, 1, 5, 0, 39, 0), 0, x -> x.right(3));
        EDGES.leaves(x -> x.report(4, 0, 1, 5, 40, 40, 0), 1, x -> x.right(3));
        EDGES.leaves(x -> x.report(4, 0, 0, 4, 0, 99, 0), 0, x -> x.right(3));
        EDGES.leaves(x -> x.report(4, 0, 0, 0, 0, 99, 0), 0, x -> x.right(3));
        EDGES.says("who tells it doesn't matter");
        EDGES.leaves(x -> x.report(0, 0, 0, 5, 12, 12, 0), 1, x -> x.right(3));
    }

    private static void rightHeld() {
        EDGES.promise(23, x -> {
            x.room(5);
            x.hold(4, 2, 8, 10, 20);
            x.hold(5, 6, 9, 30, 30);
        });
        EDGES.says("a HAND of its own TRULY held it in all of them");
        int[][] spans = {{10, 20, 1}, {10, 10, 1}, {20, 20, 1}, {9, 20, 0}, {10, 21, 0}, {9, 9, 0}, {21, 21, 0}};
        for (int[] span : spans) {
            EDGES.leaves(x -> x.report(2, 1, 8, 0, span[0], span[1], 0), span[2], x -> x.right(0));
        }
        EDGES.leaves(x -> x.report(2, 1, 9, 0, 30, 30, 0), 1, x -> x.right(0));
        EDGES.leaves(x -> x.report(2, 1, 9, 0, 10, 20, 0), 0, x -> x.right(0));
        EDGES.leaves(x -> x.report(2, 1, 2, 0, 10, 20, 0), 0, x -> x.right(0));
        EDGES.leaves(x -> x.report(3, 1, 8, 0, 10, 20, 0), 0, x -> x.right(0));
        EDGES.leaves(x -> x.report(1, 1, 8, 0, 10, 20, 0), 0, x -> x.right(0));
        EDGES.says("whatever the DAY");
        EDGES.leaves(x -> Edges.tell(x, "memory 20 20;") + x.report(2, 1, 8, 0, 9, 20, 30), 0, x -> x.right(0));
    }

    // LOSS and SMOOTH are told, and a MOVE in SECOND 50 that PERSON 1 SAW.
    private static void remembered(RapTable x, int loss, int smooth) {
        x.room(4);
        x.thing(0);
        x.attend(1, 4, 0, 99);
        x.move(0, 0, 4, 50);
        Edges.tell(x, "memory " + loss + " " + smooth + ";");
    }

    private static void honest() {
        EDGES.promise(24, Edges::sitting);
        EDGES.says("NONE: none such");
        for (int n : new int[] {-1, 3, 30, MIN, MAX}) {
            EDGES.refused(0, x -> x.honest(n));
        }
        EDGES.asked(1, x -> x.honest(0));
        EDGES.asked(1, x -> x.honest(1));
        EDGES.says("the SECOND being from a less LOSS times DAY to b and LOSS times DAY");
        int[][] days = {{0, 0}, {0, 30}, {1, 0}, {20, 0}, {1, 1}, {3, 4}, {20, 2}, {1, 30}, {7, 7}};
        for (int[] each : days) {
            int slack = each[0] * each[1];
            EDGES.scene(x -> remembered(x, each[0], 0));
            for (int i = -1; i <= 1; i++) {
                int late = 50 + slack + i;
                int early = 50 - slack - i;
                long due = i <= 0 ? 1 : 0;
                if (late <= 99) {
                    EDGES.leaves(x -> x.report(1, 0, 0, 4, late, 99, each[1]), due, x -> x.honest(0));
                }
                if (early >= 0) {
                    EDGES.leaves(x -> x.report(1, 0, 0, 4, 0, early, each[1]), due, x -> x.honest(0));
                }
            }
        }
        EDGES.says("LOSS times DAY beyond all SECONDS");
        EDGES.scene(x -> remembered(x, 20, 0));
        EDGES.leaves(x -> x.report(1, 0, 0, 4, 99, 99, 30), 1, x -> x.honest(0));
        EDGES.leaves(x -> x.report(1, 0, 0, 4, 0, 0, 30), 1, x -> x.honest(0));
        EDGES.says("it SAW such a MOVE");
        EDGES.leaves(x -> x.report(2, 0, 0, 4, 50, 50, 30), 0, x -> x.honest(0));
        EDGES.leaves(x -> x.report(0, 0, 0, 4, 50, 50, 30), 0, x -> x.honest(0));
        EDGES.leaves(x -> x.report(0, 0, 0, 4, 50, 50, 30) + bit(x.attend(0, 4, 0, 99)), 0, x -> x.honest(0));
        EDGES.leaves(x -> x.report(1, 0, 0, 0, 50, 50, 30), 0, x -> x.honest(0));
        EDGES.leaves(x -> x.report(1, 0, 0, 4, 50, 50, 0) + bit(x.light(50, 50, 4)), 0, x -> x.honest(0));
        EDGES.leaves(x -> x.report(1, 0, 0, 4, 50, 50, 0) + bit(x.light(50, 50, 5)), 1, x -> x.honest(0));
        EDGES.says("such a MOVE: any of several");
        EDGES.leaves(x -> x.report(2, 0, 0, 4, 60, 70, 0) + x.move(0, 0, 0, 55) + x.move(2, 0, 4, 65)
                + x.move(0, 0, 3, 66) + bit(x.attend(2, 4, 65, 65)), 1, x -> bit(x.honest(0) == x.right(0)));
    }

    private static void honestHeld() {
        EDGES.promise(24, x -> {
            x.room(4);
            x.hold(2, 0, 4, 10, 19);
            x.hold(3, 0, 4, 24, 30);
            Edges.tell(x, "memory 0 2;");
        });
        EDGES.says("in no more than SMOOTH times DAY SECONDS that follow one another no HAND of its own SEEMED to hold it");
        int[][] told = {{10, 19, 0, 1}, {10, 20, 0, 0}, {9, 19, 0, 0}, {8, 19, 1, 1}, {7, 19, 1, 0}, {10, 21, 1, 1},
            {10, 22, 1, 0}, {10, 30, 1, 0}, {10, 30, 2, 1}, {6, 34, 2, 1}, {5, 34, 2, 0}, {6, 35, 2, 0}, {0, 99, 30, 0},
            {40, 99, 30, 1}, {39, 99, 30, 0}, {31, 90, 30, 1}, {31, 91, 30, 0}};
        for (int[] each : told) {
            EDGES.leaves(x -> x.report(1, 1, 0, 0, each[0], each[1], each[2]), each[3], x -> x.honest(0));
        }
        EDGES.says("SMOOTH 20 on DAY 5 leaves all SECONDS out");
        EDGES.leaves(x -> Edges.tell(x, "memory 0 20;") + x.report(2, 1, 0, 0, 0, 99, 5), 1, x -> x.honest(0));
        EDGES.leaves(x -> Edges.tell(x, "memory 0 20;") + x.report(2, 1, 0, 0, 0, 99, 4), 0, x -> x.honest(0));
        EDGES.leaves(x -> Edges.tell(x, "memory 0 20;") + x.report(2, 1, 0, 0, 0, 79, 4), 1, x -> x.honest(0));
        EDGES.says("SMOOTH 0: in each SECOND one SEEMED to hold it");
        EDGES.leaves(x -> Edges.tell(x, "memory 20 0;") + x.report(1, 1, 0, 0, 10, 20, 30), 0, x -> x.honest(0));
        EDGES.leaves(x -> Edges.tell(x, "memory 20 0;") + x.report(1, 1, 0, 0, 10, 19, 30), 1, x -> x.honest(0));
        EDGES.says("no HAND of its own: one of both is enough");
        EDGES.leaves(x -> bit(x.hold(3, 0, 4, 20, 23)) + x.report(1, 1, 0, 0, 10, 30, 0), 1, x -> x.honest(0));
        EDGES.says("what it TRULY held isn't asked");
        EDGES.leaves(x -> x.report(1, 1, 4, 0, 10, 19, 0), 0, x -> x.honest(0));
        EDGES.leaves(x -> x.report(1, 1, 4, 0, 10, 19, 0), 1, x -> x.right(0));
    }

    private static void agree() {
        EDGES.promise(25, x -> {
            x.room(4);
            x.thing(0);
            x.thing(0);
            x.report(0, 0, 0, 4, 10, 20, 0);
            x.report(0, 1, 4, 0, 10, 20, 0);
        });
        EDGES.says("NONE: none such");
        for (int n : new int[] {-1, 2, MIN, MAX}) {
            EDGES.refused(0, x -> x.agree(n, 0));
            EDGES.refused(0, x -> x.agree(0, n));
            EDGES.refused(0, x -> x.agree(n, n));
        }
        EDGES.says("NONE: both are one");
        EDGES.refused(0, x -> x.agree(0, 0));
        EDGES.refused(0, x -> x.agree(1, 1));
        EDGES.says("of the same THING and SPOT, and a SECOND is in both");
        int[][] spans = {{20, 30, 1}, {21, 30, 0}, {0, 10, 1}, {0, 9, 0}, {15, 15, 1}, {0, 99, 1}, {10, 10, 1}, {20, 20, 1}};
        for (int[] span : spans) {
            EDGES.leaves(x -> x.report(3, 0, 0, 4, span[0], span[1], 30), span[2], x -> x.agree(0, 2));
            EDGES.leaves(x -> x.report(3, 0, 0, 4, span[0], span[1], 30), span[2], x -> x.agree(2, 0));
        }
        EDGES.leaves(x -> x.report(3, 0, 1, 4, 10, 20, 0), 0, x -> x.agree(0, 2));
        EDGES.leaves(x -> x.report(3, 0, 0, 3, 10, 20, 0), 0, x -> x.agree(0, 2));
        EDGES.says("both (1), of one HAND, by one PERSON or not, whatever the SECONDS");
        EDGES.leaves(x -> x.report(0, 1, 4, 0, 50, 60, 0), 1, x -> x.agree(1, 2));
        EDGES.leaves(x -> x.report(3, 1, 4, 1, 50, 60, 9), 1, x -> x.agree(2, 1));
        EDGES.leaves(x -> x.report(0, 1, 5, 0, 10, 20, 0), 0, x -> x.agree(1, 2));
        EDGES.says("both (0) or both (1)");
        EDGES.asked(0, x -> x.agree(0, 1));
        EDGES.leaves(x -> x.report(3, 1, 0, 4, 10, 20, 0), 0, x -> x.agree(0, 2));
        EDGES.leaves(x -> x.report(3, 1, 0, 4, 10, 20, 0), 0, x -> x.agree(2, 0));
    }

    private static void stories() {
        EDGES.promise(26, Edges::sitting);
        for (int i = 0; i < 2; i++) {
            boolean friend = i == 1;
            EDGES.says("NONE: no REPORT (0)");
            for (int n : new int[] {-1, 3, 1, MIN, MAX}) {
                EDGES.refused(0, x -> x.stories(n, friend, 0));
            }
            EDGES.says("NONE: another what");
            for (int n : new int[] {-1, 3, MIN, MAX}) {
                EDGES.refused(0, x -> x.stories(0, friend, n));
            }
        }
        EDGES.says("how many, the set of PERSONS, the set of WAYS: none");
        EDGES.scene(x -> {
            x.thing(0);
            x.report(0, 0, 0, 3, 0, 9, 0);
        });
        for (int i = 0; i < 3; i++) {
            int what = i;
            EDGES.asked(0, x -> x.stories(0, false, what));
            EDGES.asked(0, x -> x.stories(0, true, what));
        }
        EDGES.says("the set of PERSONS, the set of WAYS: all");
        EDGES.scene(x -> {
            x.room(9);
            x.thing(9);
            x.report(0, 0, 0, 8, 0, 9, 0);
            Edges.tell(x, "way a;way b;way c;way d;way e;way f;way g;way h;");
        });
        EDGES.asked(24, x -> x.stories(0, false, 0));
        EDGES.asked(1 + 128 + 256, x -> x.stories(0, false, 1));
        EDGES.asked(255, x -> x.stories(0, true, 2));
    }

    private static void storiesFit() {
        EDGES.promise(26, x -> {
            x.room(5);
            x.thing(0);
            x.report(3, 0, 0, 5, 10, 11, 0);
            Edges.tell(x, "way a move left 2;way b dark 3;way c;");
        });
        EDGES.says("such that the WAY FITS for it within a to b");
        EDGES.asked(6, x -> x.stories(0, false, 0));
        EDGES.asked(5, x -> x.stories(0, false, 2));
        EDGES.asked(1 + 2 + 16, x -> x.stories(0, false, 1));
        EDGES.leaves(x -> bit(x.light(11, 11, 3)), 9, x -> x.stories(0, false, 0));
        EDGES.leaves(x -> bit(x.light(10, 10, 3)), 7, x -> x.stories(0, false, 2));
        EDGES.leaves(x -> bit(x.light(9, 9, 0) && x.light(12, 12, 0)), 6, x -> x.stories(0, false, 0));
        EDGES.says("alone (FRIENDS: none)");
        EDGES.leaves(x -> bit(x.attend(2, 5, 11, 11)), 3, x -> x.stories(0, false, 0));
        EDGES.leaves(x -> bit(x.attend(2, 5, 12, 12) && x.attend(2, 5, 9, 9)), 6, x -> x.stories(0, false, 0));
        EDGES.says("if a friend may be, with one other PERSON as FRIENDS or none");
        EDGES.leaves(x -> bit(x.attend(2, 5, 11, 11)), 6, x -> x.stories(0, true, 0));
        EDGES.leaves(x -> bit(x.attend(2, 5, 11, 11) && x.attend(3, 5, 11, 11)), 3, x -> x.stories(0, true, 0));
        EDGES.says("one who watches may be the PERSON itself");
        EDGES.leaves(x -> bit(x.attend(1, 5, 11, 11) && x.attend(3, 5, 11, 11)), 4, x -> x.stories(0, true, 0));
        EDGES.leaves(x -> bit(x.attend(1, 5, 11, 11)), 4, x -> x.stories(0, false, 0));
        EDGES.leaves(x -> bit(x.attend(4, 5, 11, 11)), 6, x -> x.stories(0, true, 0));
        EDGES.leaves(x -> bit(x.attend(0, 5, 11, 11)), 6, x -> x.stories(0, true, 0));
        EDGES.says("alone: PERSON 0 is nobody's FRIEND");
        EDGES.leaves(x -> bit(x.attend(0, 5, 0, 99)), 4, x -> x.stories(0, false, 0));
        EDGES.leaves(x -> bit(x.attend(0, 5, 0, 99)), 5, x -> x.stories(0, false, 2));
        EDGES.says("CONTROLS aren't in force");
        EDGES.leaves(x -> x.control(2, 2, 5, 0, 99, 1), 6, x -> x.stories(0, false, 0));
    }

    private static void least() {
        EDGES.promise(27, Edges::sitting);
        EDGES.says("NONE: no REPORT (0)");
        for (int n : new int[] {-1, 3, 1, MIN, MAX}) {
            EDGES.refused(0, x -> x.least(n, 0));
        }
        EDGES.says("NONE: there are STORIES");
        for (int i = 0; i < 3; i++) {
            int what = i;
            EDGES.refused(0, x -> x.least(2, what));
        }
        EDGES.scene(x -> {
            x.room(9);
            x.thing(0);
            x.report(0, 0, 0, 3, 10, 12, 0);
            x.report(0, 0, 0, 2, 10, 12, 0);
            x.report(0, 0, 0, 0, 10, 12, 0);
        });
        EDGES.says("NONE: no HAND REACHES both");
        for (int i = 0; i < 3; i++) {
            int what = i;
            EDGES.refused(0, x -> x.least(0, what));
        }
        EDGES.says("NONE: another what");
        for (int n : new int[] {-1, 3, MIN, MAX}) {
            EDGES.refused(0, x -> x.least(1, n));
        }
        EDGES.says("the HAND, the SECOND, how many PERSONS TRULY VOUCH for it");
        EDGES.asked(2, x -> x.least(1, 0));
        EDGES.asked(10, x -> x.least(1, 1));
        EDGES.asked(0, x -> x.least(1, 2));
        EDGES.says("(alone): STORIES with a friend don't count");
        EDGES.leaves(x -> Edges.tell(x, "way a away;") + bit(x.attend(8, 1, 0, 99)), 2, x -> x.least(1, 0));
        EDGES.leaves(x -> Edges.tell(x, "way a away;") + bit(x.attend(8, 1, 0, 11)), NONE, x -> x.least(1, 0));
        EDGES.says("both SPOTS are one where it lies there already");
        EDGES.asked(0, x -> x.least(2, 0));
    }

    private static void leastGuarded() {
        Edges.Scene guarded = x -> {
            x.room(5);
            x.thing(0);
            x.report(3, 0, 0, 5, 10, 12, 0);
            for (int person = 0; person < 5; person++) {
                x.attend((person + 2) % 5, person, 0, 99);
                x.attend((person + 2) % 5, NONE, 9, 9);
                x.attend((person + 2) % 5, NONE, 13, 13);
            }
        };
        EDGES.promise(27, guarded);
        EDGES.says("of SECONDS a to b alone");
        EDGES.asked(0, x -> x.least(0, 0));
        EDGES.asked(10, x -> x.least(0, 1));
        EDGES.asked(1, x -> x.least(0, 2));
        EDGES.says("those for which fewest PERSONS TRULY VOUCH");
        EDGES.leaves(x -> bit(x.attend(1, NONE, 12, 12)), 8, x -> x.least(0, 0));
        EDGES.leaves(x -> bit(x.attend(1, NONE, 12, 12)), 12, x -> x.least(0, 1));
        EDGES.leaves(x -> bit(x.attend(1, NONE, 12, 12)), 0, x -> x.least(0, 2));
        EDGES.says("of HANDS whose PERSON REACHES both SPOTS");
        EDGES.leaves(x -> bit(x.attend(4, NONE, 12, 12)), 0, x -> x.least(0, 0));
        EDGES.leaves(x -> bit(x.attend(0, NONE, 12, 12)), 10, x -> x.least(0, 1));
        EDGES.says("of like ones the earliest SECOND");
        EDGES.leaves(x -> bit(x.attend(1, NONE, 11, 11) && x.attend(2, NONE, 12, 12)), 8, x -> x.least(0, 0));
        EDGES.leaves(x -> bit(x.attend(1, NONE, 11, 11) && x.attend(2, NONE, 12, 12)), 11, x -> x.least(0, 1));
        EDGES.says("then the least HAND");
        EDGES.leaves(x -> bit(x.attend(3, NONE, 11, 11) && x.attend(1, NONE, 11, 11)), 2, x -> x.least(0, 0));
        EDGES.leaves(x -> bit(x.hold(4, 2, 2, 10, 12) && x.attend(3, NONE, 11, 11)), 3, x -> x.least(0, 0));
        EDGES.says("PERSONS, each once");
        EDGES.leaves(x -> bit(x.hold(4, 2, 0, 10, 12)), 0, x -> x.least(0, 0));
        EDGES.leaves(x -> bit(x.hold(2, 0, 0, 10, 12)), 1, x -> x.least(0, 0));
        EDGES.says("that at which the THING lies ahead of SECOND a");
        EDGES.leaves(x -> x.move(2, 0, 2, 9), 2, x -> x.least(0, 0));
        EDGES.leaves(x -> x.move(2, 0, 2, 10), 0, x -> x.least(0, 0));
        EDGES.says("of HANDS that there are, in every ring");
        for (int n = 3; n <= 9; n++) {
            int seats = n;
            EDGES.scene(x -> {
                x.room(seats);
                x.thing(seats - 1);
                x.report(0, 0, 0, seats, 0, 9, 0);
                for (int person = 0; person < seats; person++) {
                    x.attend((person + 1) % seats, person, 0, 99);
                }
            });
            EDGES.asked(0, x -> x.least(0, 0));
            EDGES.asked(1, x -> x.least(0, 2));
        }
        EDGES.scene(guarded);
        EDGES.says("TRULY: what SEEMS so isn't asked");
        EDGES.leaves(x -> bit(x.hold(2, 0, 8, 10, 12)), 0, x -> x.least(0, 0));
    }

    private static void pass() {
        EDGES.promise(28, Edges::sitting);
        EDGES.says("NONE: none such: THING");
        for (int n : new int[] {-1, 2, MIN, MAX}) {
            EDGES.refused(0, x -> x.pass(n, 5, 31, 0, 9, -1));
        }
        EDGES.says("NONE: none such: SPOT");
        for (int n : new int[] {-1, 6, MIN, MAX}) {
            EDGES.refused(0, x -> x.pass(0, n, 31, 0, 9, -1));
        }
        EDGES.says("a set of PERSONS that there are; 0 is one");
        for (int n : new int[] {-1, 32, MIN, MAX, 63}) {
            EDGES.refused(0, x -> x.pass(0, 0, n, 0, 9, -1));
        }
        EDGES.asked(0, x -> x.pass(0, 0, 0, 0, 9, -1));
        EDGES.asked(0, x -> x.pass(0, 0, 31, 0, 9, -1));
        EDGES.asked(NONE, x -> x.pass(0, 5, 0, 0, 9, -1));
        EDGES.asked(1, x -> x.pass(0, 5, 31, 0, 9, -1));
        EDGES.says("NONE: none such: SECONDS");
        int[][] bad = {{-1, 9}, {0, 100}, {9, 8}, {MIN, 9}, {0, MAX}};
        for (int[] span : bad) {
            EDGES.refused(0, x -> x.pass(0, 0, 31, span[0], span[1], -1));
        }
        EDGES.says("NONE: there is none (of either): what");
        for (int n : new int[] {-2, 3, MIN, MAX}) {
            EDGES.refused(0, x -> x.pass(0, 5, 31, 0, 9, n));
        }
        EDGES.asked(0, x -> x.pass(0, 5, 31, 0, 9, 0));
        EDGES.asked(0, x -> x.pass(0, 5, 31, 0, 9, 1));
        EDGES.asked(5, x -> x.pass(0, 5, 31, 0, 9, 2));
        EDGES.says("no HOPS, if it lies there: of no HOP there is anything");
        EDGES.refused(0, x -> x.pass(0, 0, 31, 0, 9, 0));
        EDGES.says("NONE: there is none (of either): PASS");
        for (int i = -1; i < 3; i++) {
            int what = i;
            EDGES.refused(0, x -> x.pass(0, 5, 0, 0, 9, what));
        }
        EDGES.says("the SPOT at which it lies ahead of a");
        EDGES.asked(0, x -> x.pass(0, 0, 31, 12, 12, -1));
        EDGES.asked(1, x -> x.pass(0, 0, 31, 13, 13, -1));
        EDGES.asked(1, x -> x.pass(0, 5, 31, 12, 12, -1));
        EDGES.asked(0, x -> x.pass(0, 5, 31, 13, 13, -1));
    }

    private static void passHops() {
        EDGES.promise(28, x -> {
            x.room(6);
            x.thing(0);
        });
        EDGES.says("each in a later SECOND of these than the one ahead");
        EDGES.asked(NONE, x -> x.pass(0, 3, 63, 10, 10, -1));
        EDGES.asked(2, x -> x.pass(0, 3, 63, 10, 11, -1));
        EDGES.asked(2, x -> x.pass(0, 3, 63, 98, 99, -1));
        EDGES.asked(NONE, x -> x.pass(0, 3, 63, 99, 99, -1));
        EDGES.asked(99, x -> x.pass(0, 3, 63, 98, 99, 3));
        EDGES.refused(0, x -> x.pass(0, 3, 63, 98, 99, 6));
        EDGES.asked(3, x -> x.pass(0, 3, 63, 98, 99, 5));
        EDGES.says("within SECONDS a to b");
        EDGES.asked(10, x -> x.pass(0, 6, 63, 10, 10, 0));
        EDGES.asked(0, x -> x.pass(0, 6, 63, 0, 99, 0));
        EDGES.says("a HAND of one of the set");
        EDGES.asked(1, x -> x.pass(0, 6, 1, 0, 9, -1));
        EDGES.asked(NONE, x -> x.pass(0, 6, 4, 0, 9, -1));
        EDGES.asked(NONE, x -> x.pass(0, 6, 4 + 8 + 16, 0, 9, -1));
        EDGES.asked(2, x -> x.pass(0, 6, 2, 0, 9, 1));
        EDGES.asked(10, x -> x.pass(0, 6, 32, 0, 9, 1));
        EDGES.says("FREE in that SECOND");
        EDGES.leaves(x -> bit(x.hold(0, 2, 2, 0, 4)), 1, x -> x.pass(0, 6, 1, 0, 9, 1));
        EDGES.leaves(x -> bit(x.hold(0, 2, 2, 0, 4) && x.hold(1, 2, 2, 0, 4)), 5, x -> x.pass(0, 6, 1, 0, 9, 0));
        EDGES.leaves(x -> bit(x.hold(0, 2, 2, 0, 4) && x.hold(1, 2, 2, 0, 4)), NONE, x -> x.pass(0, 6, 1, 0, 4, -1));
        EDGES.leaves(x -> bit(x.hold(2, 0, 0, 0, 4) && x.hold(3, 1, 1, 0, 3)), 4, x -> x.pass(0, 6, 3, 0, 9, 0));
        EDGES.leaves(x -> bit(x.hold(2, 0, 0, 0, 4) && x.hold(3, 1, 1, 0, 3)), NONE, x -> x.pass(0, 6, 3, 0, 3, -1));
        EDGES.says("nobody out of the set TRULY VOUCHES for that HAND");
        EDGES.leaves(x -> x.move(2, 0, 1, 0) + bit(x.attend(4, 0, 1, 4)), 5, x -> x.pass(0, 6, 1, 1, 9, 0));
        EDGES.leaves(x -> x.move(2, 0, 1, 0) + bit(x.attend(4, 0, 1, 4)), 1, x -> x.pass(0, 6, 17, 1, 9, 0));
        EDGES.leaves(x -> x.move(2, 0, 1, 0) + bit(x.attend(0, 0, 1, 4)), 1, x -> x.pass(0, 6, 1, 1, 9, 0));
        EDGES.says("or SEES one of both SPOTS, in that SECOND");
        EDGES.leaves(x -> bit(x.attend(4, 0, 0, 4)), 5, x -> x.pass(0, 6, 2, 0, 9, 0));
        EDGES.leaves(x -> bit(x.attend(4, 6, 0, 4)), 5, x -> x.pass(0, 6, 2, 0, 9, 0));
        EDGES.leaves(x -> bit(x.attend(4, 6, 0, 4)), 0, x -> x.pass(0, 6, 18, 0, 9, 0));
        EDGES.leaves(x -> bit(x.attend(4, 6, 0, 4) && x.light(3, 3, 4)), 3, x -> x.pass(0, 6, 2, 0, 9, 0));
        EDGES.leaves(x -> bit(x.attend(4, 6, 0, 4) && x.light(3, 3, 5)), 5, x -> x.pass(0, 6, 2, 0, 9, 0));
        EDGES.leaves(x -> bit(x.attend(4, 2, 0, 4)), 0, x -> x.pass(0, 6, 2, 0, 9, 0));
    }

    private static void passShortest() {
        EDGES.promise(28, x -> {
            x.room(6);
            x.thing(0);
        });
        EDGES.says("SHORTEST: the fewest HOPS, however late");
        EDGES.leaves(x -> bit(x.attend(4, 6, 0, 98) && x.attend(4, NONE, 99, 99)), 1, x -> x.pass(0, 6, 1, 0, 99, -1));
        EDGES.leaves(x -> bit(x.hold(0, 2, 4, 0, 97) && x.hold(1, 2, 4, 0, 97)), 1, x -> x.pass(0, 6, 1, 0, 99, -1));
        EDGES.leaves(x -> bit(x.hold(0, 2, 4, 0, 97) && x.hold(1, 2, 4, 0, 97)), 98, x -> x.pass(0, 6, 1, 0, 99, 0));
        EDGES.says("of these the earliest last SECOND");
        Edges.Call busy = x -> bit(x.attend(5, 3, 0, 20) && x.attend(5, NONE, 21, 99));
        EDGES.leaves(busy, 2, x -> x.pass(0, 3, 31, 0, 99, -1));
        EDGES.leaves(busy, 21, x -> x.pass(0, 3, 31, 0, 99, 3));
        EDGES.says("of these the first by the numbers SECOND, HAND, SPOT of each HOP");
        EDGES.leaves(busy, 0, x -> x.pass(0, 3, 31, 0, 99, 0));
        EDGES.leaves(busy, 0, x -> x.pass(0, 3, 31, 0, 99, 1));
        EDGES.leaves(busy, 1, x -> x.pass(0, 3, 31, 0, 99, 2));
        EDGES.leaves(busy, 4, x -> x.pass(0, 3, 31, 0, 99, 4));
        EDGES.asked(0, x -> x.pass(0, 3, 63, 0, 99, 1));
        EDGES.asked(1, x -> x.pass(0, 3, 63, 0, 99, 2));
        EDGES.leaves(x -> bit(x.attend(5, 1, 0, 99)), 5, x -> x.pass(0, 3, 31, 0, 99, 2));
        EDGES.says("the first SECOND ahead of the HAND");
        EDGES.leaves(x -> bit(x.hold(0, 2, 6, 0, 0) && x.hold(1, 2, 6, 0, 0)), 0, x -> x.pass(0, 3, 3 + 4, 0, 99, 0));
        EDGES.leaves(x -> bit(x.hold(0, 2, 6, 0, 0) && x.hold(1, 2, 6, 0, 0)), 2, x -> x.pass(0, 3, 3 + 4, 0, 99, 1));
        EDGES.leaves(x -> bit(x.hold(0, 2, 6, 0, 0) && x.hold(1, 2, 6, 0, 0)), 1, x -> x.pass(0, 3, 3 + 4, 0, 99, 2));
        EDGES.says("in a ring of nine, up to the SPOT across, around the MIDDLE that is seen");
        EDGES.scene(x -> {
            x.room(9);
            x.thing(0);
            x.attend(8, 9, 0, 99);
        });
        EDGES.asked(NONE, x -> x.pass(0, 6, 127, 0, 1, -1));
        EDGES.asked(3, x -> x.pass(0, 6, 127, 0, 2, -1));
        EDGES.asked(2, x -> x.pass(0, 4, 127, 0, 9, -1));
        int[] row = {0, 2, 2, 1, 6, 4};
        for (int i = 0; i < row.length; i++) {
            int what = i;
            EDGES.asked(row[what], x -> x.pass(0, 4, 127, 0, 9, what));
        }
        EDGES.says("3 k, 3 k and 1, 3 k and 2: SECOND, HAND and SPOT of HOP k");
        // 0 brings it to 1, 2 to 2, 3 to 4
        int[] three = {0, 0, 1, 1, 4, 2, 2, 6, 4};
        EDGES.asked(3, x -> x.pass(0, 4, 1 + 4 + 8, 0, 9, -1));
        for (int i = 0; i < three.length; i++) {
            int what = i;
            EDGES.asked(three[what], x -> x.pass(0, 4, 1 + 4 + 8, 0, 9, what));
        }
        EDGES.refused(0, x -> x.pass(0, 4, 1 + 4 + 8, 0, 9, 9));
        EDGES.says("each HOP as early as the others let it");
        Edges.Call late = x -> bit(x.attend(7, 2, 0, 20) && x.attend(5, 4, 0, 49));
        int[] lateThree = {0, 0, 1, 21, 4, 2, 50, 6, 4};
        for (int i = 0; i < lateThree.length; i++) {
            int what = i;
            EDGES.leaves(late, lateThree[what], x -> x.pass(0, 4, 1 + 4 + 8, 0, 99, what));
        }
        EDGES.says("four HOPS");
        int[] four = {0, 0, 1, 1, 4, 2, 2, 6, 4, 3, 10, 6};
        EDGES.asked(4, x -> x.pass(0, 6, 1 + 4 + 8 + 32, 0, 9, -1));
        EDGES.asked(NONE, x -> x.pass(0, 6, 1 + 4 + 8 + 32, 0, 2, -1));
        for (int i = 0; i < four.length; i++) {
            int what = i;
            EDGES.asked(four[what], x -> x.pass(0, 6, 1 + 4 + 8 + 32, 0, 9, what));
        }
        EDGES.says("to SPOT 0");
        EDGES.scene(x -> {
            x.room(9);
            x.thing(2);
            x.thing(4);
        });
        int[] direct = {5, 2, 0};
        int[] twice = {5, 6, 9, 6, 0, 0};
        EDGES.asked(1, x -> x.pass(0, 0, 511, 5, 9, -1));
        EDGES.asked(2, x -> x.pass(1, 0, 1 + 8, 5, 9, -1));
        for (int i = 0; i < 3; i++) {
            int what = i;
            EDGES.asked(direct[what], x -> x.pass(0, 0, 511, 5, 9, what));
        }
        for (int i = 0; i < 6; i++) {
            int what = i;
            EDGES.asked(twice[what], x -> x.pass(1, 0, 1 + 8, 5, 9, what));
        }
    }

    private static void culprits() {
        EDGES.promise(29, Edges::sitting);
        EDGES.says("NONE: an empty set");
        EDGES.refused(0, x -> x.culprits(0));
        EDGES.says("NONE: not of REPORTS (0)");
        for (int n : new int[] {2, 3, 7, 8, 9, 1 << 29, 1 << 30, MIN, MAX, -1, MIN + 1}) {
            EDGES.refused(0, x -> x.culprits(n));
        }
        EDGES.asked(2 + 4, x -> x.culprits(1));
        EDGES.says("the set of PERSONS by which each of these has a PASS within its SECONDS");
        EDGES.scene(x -> {
            x.room(4);
            x.thing(0);
            x.report(0, 0, 0, 4, 10, 10, 0);
            x.report(0, 0, 0, 2, 10, 10, 0);
            x.report(0, 0, 0, 0, 10, 10, 0);
            x.report(0, 0, 0, 2, 10, 11, 0);
        });
        EDGES.asked(1, x -> x.culprits(1));
        EDGES.asked(2, x -> x.culprits(2));
        EDGES.says("no HOPS, if it lies there: nobody is needed");
        EDGES.asked(0, x -> x.culprits(4));
        EDGES.asked(1, x -> x.culprits(5));
        EDGES.says("NONE: there are none");
        EDGES.leaves(x -> bit(x.hold(2, 0, 4, 0, 99) && x.hold(3, 0, 4, 0, 99) && x.hold(6, 0, 4, 0, 99)
                && x.hold(7, 0, 4, 0, 99)), NONE, x -> x.culprits(2));
        EDGES.leaves(x -> bit(x.hold(2, 0, 4, 0, 99) && x.hold(3, 0, 4, 0, 99) && x.hold(6, 0, 4, 0, 99)
                && x.hold(7, 0, 4, 0, 99)), 1, x -> x.culprits(1));
        EDGES.says("thirty REPORTS");
        EDGES.scene(x -> {
            x.thing(0);
            for (int i = 0; i < 30; i++) {
                x.report(0, 0, 0, 3, i, i, 0);
            }
        });
        EDGES.asked(1, x -> x.culprits((1 << 30) - 1));
        EDGES.asked(1, x -> x.culprits(1 << 29));
        EDGES.refused(0, x -> x.culprits(1 << 30));
        EDGES.refused(0, x -> x.culprits(MAX));
        EDGES.refused(0, x -> x.culprits(-1));
        EDGES.leaves(x -> bit(x.hold(0, 2, 2, 29, 29) && x.hold(1, 2, 2, 29, 29)), 2, x -> x.culprits((1 << 30) - 1));
    }

    private static void culpritsFewest() {
        EDGES.promise(29, x -> {
            x.room(6);
            x.thing(0);
            x.thing(3);
            x.report(0, 0, 0, 6, 0, 9, 0);
            x.report(0, 0, 1, 6, 0, 9, 0);
            x.report(0, 0, 0, 3, 0, 9, 0);
        });
        EDGES.says("with the fewest");
        EDGES.asked(1, x -> x.culprits(1));
        EDGES.asked(4, x -> x.culprits(2));
        EDGES.asked(5, x -> x.culprits(3));
        EDGES.says("of like ones the least number");
        EDGES.leaves(x -> bit(x.hold(0, 2, 6, 0, 9) && x.hold(1, 2, 6, 0, 9)), 2, x -> x.culprits(1));
        EDGES.leaves(x -> bit(x.hold(0, 2, 6, 0, 9) && x.hold(1, 2, 6, 0, 9)), 6, x -> x.culprits(3));
        EDGES.leaves(x -> bit(x.hold(0, 2, 6, 0, 9) && x.hold(1, 2, 6, 0, 9) && x.hold(2, 0, 6, 0, 9)
                && x.hold(3, 0, 6, 0, 9)), 32, x -> x.culprits(1));
        EDGES.says("who sees it is of the set, or there is no PASS");
        EDGES.leaves(x -> bit(x.attend(5, 6, 0, 99)), 32, x -> x.culprits(1));
        EDGES.leaves(x -> bit(x.attend(3, 6, 0, 99)), 9, x -> x.culprits(1));
        EDGES.leaves(x -> bit(x.attend(3, 6, 0, 99) && x.attend(4, 6, 0, 99)), 1 + 8 + 16, x -> x.culprits(1));
        EDGES.says("by way of the MIDDLE");
        EDGES.leaves(x -> bit(x.room(9)) + x.thing(0) + x.report(0, 0, 0, 4, 0, 9, 0), 1 + 8, x -> x.culprits(1));
        EDGES.leaves(x -> bit(x.room(9)) + x.thing(0) + x.report(0, 0, 0, 4, 0, 9, 0) + bit(x.attend(8, 9, 0, 9)),
                2 + 8, x -> x.culprits(1));
        EDGES.says("from the SPOT at which it lies ahead of a");
        EDGES.leaves(x -> x.move(0, 0, 6, 4) + x.report(0, 0, 0, 6, 5, 9, 0), 0, x -> x.culprits(8));
        EDGES.leaves(x -> x.move(0, 0, 6, 5) + x.report(0, 0, 0, 6, 5, 9, 0), 1, x -> x.culprits(8));
        EDGES.leaves(x -> x.move(0, 0, 6, 4) + x.report(0, 0, 0, 0, 5, 9, 0), 1, x -> x.culprits(8));
        EDGES.leaves(x -> x.move(0, 0, 6, 5) + x.report(0, 0, 0, 0, 5, 9, 0), 0, x -> x.culprits(8));
        EDGES.says("all of them");
        EDGES.leaves(x -> bit(x.attend(0, 6, 0, 99) && x.attend(1, 6, 0, 99) && x.attend(2, 6, 0, 99)
                && x.attend(3, 6, 0, 99) && x.attend(4, 6, 0, 99) && x.attend(5, 6, 0, 99)), 63, x -> x.culprits(1));
        EDGES.leaves(x -> bit(x.attend(0, 6, 0, 99) && x.attend(1, 6, 0, 99) && x.attend(2, 6, 0, 99)
                && x.attend(3, 6, 0, 99) && x.attend(4, 6, 0, 99)), 31, x -> x.culprits(1));
    }

    private static void record() {
        EDGES.promise(30, Edges::sitting);
        EDGES.says("NONE: none such: PERSON");
        for (int n : new int[] {-1, 5, MIN, MAX}) {
            EDGES.refused(0, x -> x.record(n, 0));
        }
        EDGES.says("NONE: none such: what");
        for (int n : new int[] {-1, 5, MIN, MAX}) {
            EDGES.refused(0, x -> x.record(1, n));
        }
        EDGES.says("of a PERSON without REPORTS");
        for (int i = 0; i < 5; i++) {
            int what = i;
            EDGES.asked(0, x -> x.record(0, what));
            EDGES.asked(0, x -> x.record(4, what));
        }
        EDGES.says("how many, RIGHT, HONEST, RIGHT alone, HONEST alone");
        EDGES.scene(x -> {
            x.room(4);
            x.thing(0);
            x.attend(3, 4, 0, 99);
            x.move(0, 0, 4, 50);
            Edges.tell(x, "memory 5 0;");
            x.report(3, 0, 0, 4, 50, 50, 0);
            x.report(3, 0, 0, 4, 55, 55, 1);
            x.report(3, 0, 0, 4, 45, 45, 1);
            x.report(3, 0, 0, 4, 56, 56, 1);
            x.report(2, 0, 0, 4, 50, 50, 0);
            x.report(0, 0, 0, 4, 50, 50, 0);
        });
        int[] three = {4, 1, 3, 0, 2};
        int[] two = {1, 1, 0, 1, 0};
        for (int i = 0; i < 5; i++) {
            int what = i;
            EDGES.asked(three[what], x -> x.record(3, what));
            EDGES.asked(two[what], x -> x.record(2, what));
            EDGES.asked(two[what], x -> x.record(0, what));
            EDGES.asked(0, x -> x.record(1, what));
        }
        EDGES.says("thirty REPORTS");
        EDGES.scene(x -> {
            x.thing(0);
            for (int i = 0; i < 30; i++) {
                x.report(2, 0, 0, 3, i, i, 0);
            }
        });
        EDGES.asked(30, x -> x.record(2, 0));
        EDGES.asked(0, x -> x.record(2, 1));
    }

    private static void gone() {
        Edges.Scene scene = x -> {
            x.thing(0);
            x.image(0);
            x.thing(0);
            x.attend(1, 3, 0, 99);
            x.move(0, 1, 3, 5);
            x.move(0, 0, 3, 5);
            x.report(1, 0, 1, 3, 5, 5, 0);
            x.report(2, 0, 1, 3, 5, 9, 0);
            x.report(1, 0, 0, 3, 5, 5, 0);
            x.control(0, 0, 0, 0, 99, 9);
            x.control(0, 0, 0, 0, 99, 5);
            Edges.tell(x, "way a;");
        };
        EDGES.promise(23, scene);
        EDGES.says("A REPORT whose THING is there");
        EDGES.asked(1, x -> x.right(0));
        EDGES.asked(1, x -> x.honest(0));
        EDGES.asked(3, x -> x.stories(0, false, 0));
        EDGES.asked(2, x -> x.culprits(1));
        Edges.Scene without = x -> {
            scene.set(x);
            x.restore(0);
        };
        EDGES.promise(23, without);
        EDGES.says("whose THING isn't there any more, by restore(), is neither RIGHT");
        EDGES.asked(0, x -> x.right(0));
        EDGES.promise(24, without);
        EDGES.says("nor HONEST");
        EDGES.asked(0, x -> x.honest(0));
        EDGES.promise(26, without);
        EDGES.says("and has neither STORIES (0 of them)");
        for (int i = 0; i < 3; i++) {
            int what = i;
            EDGES.asked(0, x -> x.stories(0, false, what));
            EDGES.asked(0, x -> x.stories(1, true, what));
        }
        EDGES.refused(0, x -> x.stories(0, false, 3));
        EDGES.promise(27, without);
        EDGES.says("nor a HAND LEAST GUARDED");
        for (int i = 0; i < 3; i++) {
            int what = i;
            EDGES.leaves(x -> Edges.tell(x, ""), NONE, x -> x.least(0, what));
        }
        EDGES.promise(29, without);
        EDGES.says("NONE: not of REPORTS (0) whose THINGS there are");
        EDGES.refused(0, x -> x.culprits(1));
        EDGES.refused(0, x -> x.culprits(3));
        EDGES.refused(0, x -> x.culprits(5));
        EDGES.asked(1, x -> x.culprits(4));
        EDGES.promise(25, without);
        EDGES.says("two of one such THING AGREE all the same");
        EDGES.asked(1, x -> x.agree(0, 1));
        EDGES.asked(0, x -> x.agree(0, 2));
        EDGES.promise(30, without);
        EDGES.says("they count as REPORTS, not as RIGHT or HONEST");
        EDGES.asked(2, x -> x.record(1, 0));
        EDGES.asked(0, x -> x.record(1, 1));
        EDGES.asked(0, x -> x.record(1, 2));
        EDGES.promise(35, without);
        EDGES.says("NEXT: no STORIES to part, of like ones the least");
        EDGES.asked(0, x -> x.next(0, 9));
        EDGES.asked(1, x -> x.next(0, 8));
        EDGES.asked(NONE, x -> x.next(0, 4));
        EDGES.promise(22, without);
        EDGES.says("no such THING");
        EDGES.refused(1, x -> x.report(1, 0, 1, 3, 0, 9, 0));
        EDGES.promise(23, without);
        EDGES.says("its MOVE is gone, too: a THING anew isn't there by a MOVE");
        EDGES.leaves(x -> x.thing(0), 0, x -> x.right(0));
        EDGES.leaves(x -> x.thing(0) + x.move(0, 1, 3, 5), 1, x -> x.right(0));
    }

    private ReportsEdgesTest() {
    }
}
