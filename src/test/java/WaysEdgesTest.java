/** The edges that promises 17 to 21 name: THE TAPE, TEXTS and their FAULTS, WAYS and where they FIT. */
public final class WaysEdgesTest {
    private static final int NONE = Edges.NONE;
    private static final int MAX = Edges.MAX;
    private static final int MIN = Edges.MIN;
    private static final String WORDS = "way memory free move wait dark away swap call ready left right";
    private static final String EIGHT_WAYS = "way a;way b;way c;way d;way e;way f;way g;way h;";
    private static final String EIGHT_STEPS = "way a away away away away away away away away";
    private static final Edges EDGES = new Edges();

    public static void main(String[] args) {
        feed();
        text();
        textTaken();
        signs();
        words();
        numbers();
        grammar();
        names();
        tooMany();
        leastFault();
        fault();
        way();
        fits();
        fitsWithin();
        reaches();
        free();
        dark();
        away();
        swap();
        call();
        ready();
        move();
        othersTurn();
        asItIsNow();
        EDGES.end();
    }

    private static int bit(boolean so) {
        return Edges.bit(so);
    }

    private static String blanks(int n) {
        return " ".repeat(n);
    }

    private static void taped(RapTable x, int feeds) {
        Edges.tell(x, "way a wait 1;way b;memory 5 6;");
        for (int i = 0; i < feeds; i++) {
            Edges.feed(x, "way c wait 3;");
        }
    }

    private static void feed() {
        EDGES.promise(17, x -> taped(x, 19));
        EDGES.says("NONE: it would have more than 400");
        EDGES.taken(400, x -> x.feed(0, 0, 0, 0, 0));
        EDGES.leaves(x -> x.feed(0, 0, 0, 0, 0), 400, x -> x.count(10));
        EDGES.scene(x -> taped(x, 20));
        EDGES.refused(0, x -> x.feed(0, 0, 0, 0, 0));
        EDGES.refused(0, x -> x.feed(MIN, MAX, -1, 1, 7));
        EDGES.says("Twenty bytes come behind those on THE TAPE: how many it has");
        EDGES.promise(17, x -> { });
        EDGES.taken(20, x -> x.feed(0, 0, 0, 0, 0));
        EDGES.scene(x -> taped(x, 1));
        EDGES.taken(40, x -> x.feed(0, 0, 0, 0, 0));
        EDGES.says("the highest of each int first");
        EDGES.scene(x -> {
            x.feed(0x77617920, 0x61207761, 0x69742031, 0x20776169, 0x7420323B);
            x.feed(0x77617920, 0x62206461, 0x726B2039, 0x20617761, 0x793B2020);
        });
        EDGES.taken(2, x -> x.text(40));
        EDGES.leaves(x -> x.text(40), 3, x -> x.way(0, 1));
        EDGES.leaves(x -> x.text(40), 2, x -> x.way(1, 0));
        EDGES.says("bytes up to 255");
        EDGES.scene(x -> x.feed(0x77617920, 0x61FF3B20, 0, 0, 0));
        EDGES.leaves(x -> x.text(7), 5, x -> x.fault(1));
        EDGES.leaves(x -> x.text(7), 1, x -> x.fault(0));
        EDGES.scene(x -> x.feed(0x776179F9, 0x613B2020, 0, 0, 0));
        EDGES.leaves(x -> x.text(6), 3, x -> x.fault(1));
    }

    private static void text() {
        EDGES.promise(18, x -> taped(x, 2));
        EDGES.says("2 (n is below 0 or above what there is; THE TAPE stays)");
        for (int n : new int[] {-1, 41, MIN, MAX}) {
            EDGES.refused(2, x -> x.text(n));
        }
        EDGES.taken(1, x -> x.text(20));
        EDGES.taken(0, x -> x.text(0));
        EDGES.says("above what there is: an empty TAPE");
        EDGES.scene(x -> taped(x, 0));
        EDGES.refused(2, x -> x.text(1));
        EDGES.refused(2, x -> x.text(-1));
        EDGES.taken(0, x -> x.text(0));
        EDGES.says("above what there is: a full TAPE");
        EDGES.scene(x -> Edges.feed(x, "way a;" + blanks(388) + "way b;"));
        EDGES.refused(2, x -> x.text(401));
        EDGES.taken(2, x -> x.text(400));
        EDGES.taken(1, x -> x.text(394));
        EDGES.says("2 is ahead of 4");
        EDGES.scene(x -> Edges.feed(x, "#"));
        EDGES.refused(2, x -> x.text(21));
        EDGES.says("THE TAPE (which is empty then)");
        EDGES.scene(x -> taped(x, 2));
        for (int n : new int[] {0, 13, 20}) {
            EDGES.leaves(x -> x.text(n), 0, x -> x.count(10));
        }
        EDGES.says("THE TAPE is empty also behind a FAULT");
        EDGES.leaves(x -> x.text(12), 0, x -> x.count(10));
        EDGES.leaves(x -> x.text(12), 1, x -> x.status(4));
        EDGES.says("The first n bytes are the TEXT");
        EDGES.leaves(x -> x.text(12), 12, x -> x.fault(1));
        EDGES.leaves(x -> x.text(6), 6, x -> x.fault(1));
        EDGES.says("a TEXT with a FAULT changes no WAYS");
        int[] counts = {2, 5, 6};
        for (int i = 0; i < 3; i++) {
            int what = 4 + i;
            EDGES.leaves(x -> x.text(12), counts[i], x -> x.count(what));
        }
        EDGES.leaves(x -> x.text(12), 1, x -> x.way(0, 1));
        EDGES.says("with a FAULT: 4, and nothing else has changed");
        for (String bad : new String[] {"#", "way", "way a wait 0;", "way a;way a;", EIGHT_WAYS + "way i;"}) {
            EDGES.alike(x -> {
                Edges.sitting(x);
                x.text(20);
            }, x -> {
                Edges.sitting(x);
                x.text(13);
                Edges.tell(x, bad);
                Edges.tell(x, "way c wait 7;");
            });
        }
    }

    private static void sound(int ways, String text) {
        EDGES.taken(ways, x -> Edges.tell(x, text));
        EDGES.leaves(x -> Edges.tell(x, text), ways, x -> x.count(4));
        EDGES.leaves(x -> Edges.tell(x, text), 0, x -> x.fault(0));
        EDGES.leaves(x -> Edges.tell(x, text), NONE, x -> x.fault(1));
        EDGES.leaves(x -> Edges.tell(x, text), 0, x -> x.count(10));
    }

    private static void faulty(int kind, int place, String text) {
        EDGES.leaves(x -> Edges.tell(x, text), kind, x -> x.fault(0));
        EDGES.leaves(x -> Edges.tell(x, text), place, x -> x.fault(1));
        EDGES.leaves(x -> Edges.tell(x, text), 1, x -> x.status(4));
        EDGES.leaves(x -> Edges.tell(x, text), 0, x -> x.status(2));
        EDGES.leaves(x -> Edges.tell(x, text), 0, x -> x.count(10));
        EDGES.leaves(x -> 0, NONE, x -> Edges.tell(x, text));
        EDGES.says("a TEXT with a FAULT isn't in place of the one ahead");
        EDGES.leaves(x -> Edges.tell(x, text), 2, x -> x.count(4));
        EDGES.leaves(x -> Edges.tell(x, text), 5, x -> x.count(5));
        EDGES.leaves(x -> Edges.tell(x, text), 6, x -> x.count(6));
        EDGES.leaves(x -> Edges.tell(x, text), 1, x -> x.way(0, 1));
    }

    private static void textTaken() {
        EDGES.promise(18, x -> taped(x, 0));
        EDGES.says("{ LINE ; }: any number of times");
        sound(0, "");
        sound(0, " ");
        sound(0, blanks(400));
        sound(1, "way a;");
        sound(8, EIGHT_WAYS);
        EDGES.says("{ STEP }: any number of times");
        sound(1, "way a away;");
        EDGES.says("a TEXT of at most 400 bytes");
        sound(1, blanks(394) + "way a;");
        sound(1, "way a;" + blanks(394));
        sound(0, "memory 0 0;".repeat(36));
        EDGES.says("of several LINES memory the last counts");
        EDGES.leaves(x -> Edges.tell(x, "memory 1 2;memory 20 0;"), 20, x -> x.count(5));
        EDGES.leaves(x -> Edges.tell(x, "memory 1 2;memory 20 0;"), 0, x -> x.count(6));
        EDGES.leaves(x -> Edges.tell(x, "memory 1 20;way a;"), 20, x -> x.count(6));
        EDGES.says("without: LOSS 0, SMOOTH 0");
        EDGES.leaves(x -> Edges.tell(x, "way a;"), 0, x -> x.count(5));
        EDGES.leaves(x -> Edges.tell(x, "way a;"), 0, x -> x.count(6));
        EDGES.leaves(x -> Edges.tell(x, ""), 0, x -> x.count(5));
        EDGES.says("A TEXT without a FAULT is in place of the one ahead");
        EDGES.leaves(x -> Edges.tell(x, ""), NONE, x -> x.way(0, 0));
        EDGES.leaves(x -> Edges.tell(x, "way b;"), 0, x -> x.way(0, 1));
        EDGES.leaves(x -> Edges.tell(x, "way b;"), NONE, x -> x.way(1, 1));
        EDGES.says("memory of a TEXT with a FAULT doesn't count");
        EDGES.leaves(x -> Edges.tell(x, "memory 9 9;#"), 5, x -> x.count(5));
    }

    private static void signs() {
        EDGES.promise(18, x -> taped(x, 0));
        EDGES.says("1 no TOKEN begins so");
        for (int i = 0; i < 256; i++) {
            char sign = (char) i;
            boolean letter = i >= 'a' && i <= 'z';
            boolean digit = i >= '0' && i <= '9';
            boolean blank = i == 10 || i == 32;
            if (blank) {
                EDGES.says("blanks 10, 32 between");
                sound(1, sign + "way" + sign + "b" + sign + ";" + sign);
            } else if (i == ';') {
                faulty(2, 0, "" + sign);
            } else if (letter || digit) {
                faulty(2, 0, "" + sign);
                faulty(2, 6, "way a " + sign + ";");
            } else {
                faulty(1, 0, "" + sign);
                faulty(1, 5, "way a" + sign + ";");
                EDGES.says("1 no TOKEN begins so");
            }
        }
        EDGES.says("small letters, from the first to the last");
        sound(2, "way a;way z;");
        sound(1, "way az;");
    }

    private static void words() {
        EDGES.promise(18, x -> taped(x, 0));
        EDGES.says("NAMES: 1 to 8 small letters");
        sound(1, "way x;");
        sound(1, "way abcdefgh;");
        sound(1, "way zzzzzzzz;");
        EDGES.says("1 words of 9 letters and more, at their first");
        faulty(1, 4, "way abcdefghi;");
        faulty(1, 4, "way abcdefghij;");
        faulty(1, 0, "abcdefghi");
        faulty(1, 6, "way a " + "a".repeat(394));
        faulty(1, 6, "way a leftright;");
        faulty(1, 11, "way a move leftright 2;");
        faulty(1, 391, blanks(391) + "abcdefghi");
        EDGES.says("none of the words");
        for (String word : WORDS.split(" ")) {
            faulty(2, 4, "way " + word + ";");
            sound(1, "way " + word + "x;");
            sound(1, "way x" + word + ";");
            sound(1, "way " + word.substring(0, word.length() - 1) + ";");
        }
        EDGES.says("TOKENS go on as long as they can");
        faulty(2, 0, "waya;");
        faulty(2, 6, "way a waitx 1;");
        faulty(2, 6, "way a away" + "away;");
        faulty(2, 5, "way a1;");
        sound(1, "way a wait 1wait 2;");
        EDGES.leaves(x -> Edges.tell(x, "way a wait 1wait 2;"), 3, x -> x.way(0, 1));
        sound(2, "way a;way b;");
        sound(1, "way a move left1;");
        sound(1, "\n\nway\na\n;\n");
    }

    private static void bounds(String ahead, String behind, int low, int high) {
        EDGES.says("N: " + low + " to " + high + " in " + ahead + "N" + behind);
        sound(1, ahead + low + behind);
        sound(1, ahead + high + behind);
        faulty(3, ahead.length(), ahead + (high + 1) + behind);
        faulty(3, ahead.length(), ahead + 999 + behind);
        if (low > 0) {
            faulty(3, ahead.length(), ahead + (low - 1) + behind);
            faulty(3, ahead.length(), ahead + "000" + behind);
        }
        EDGES.says("N: 1 to 3 digits");
        sound(1, ahead + "001" + behind);
        faulty(1, ahead.length(), ahead + "0001" + behind);
        faulty(1, ahead.length(), ahead + "1000" + behind);
        EDGES.says("N has no sign");
        faulty(1, ahead.length(), ahead + "-1" + behind);
        faulty(1, ahead.length(), ahead + "+1" + behind);
    }

    private static void numbers() {
        EDGES.promise(18, x -> taped(x, 0));
        bounds("way a move left ", ";", 1, 20);
        bounds("way a move right ", ";", 1, 20);
        bounds("way a ready left ", ";", 1, 20);
        bounds("way a ready right ", ";", 1, 20);
        bounds("way a wait ", ";", 1, 20);
        bounds("way a dark ", ";", 0, 9);
        bounds("way a call ", ";", 1, 9);
        bounds("way a;memory ", " 3;", 0, 20);
        bounds("way a;memory 3 ", ";", 0, 20);
        EDGES.says("its two N's");
        EDGES.leaves(x -> Edges.tell(x, "memory 0 20;"), 0, x -> x.count(5));
        EDGES.leaves(x -> Edges.tell(x, "memory 0 20;"), 20, x -> x.count(6));
        EDGES.leaves(x -> Edges.tell(x, "memory 20 0;"), 20, x -> x.count(5));
        EDGES.leaves(x -> Edges.tell(x, "memory 020 007;"), 7, x -> x.count(6));
    }

    private static void grammar() {
        EDGES.promise(18, x -> taped(x, 0));
        EDGES.says("2 it can't stand there (the end: the text's length)");
        String[] cut = {"way", "way a", "way a free", "way a free left", "way a move", "way a move left", "way a move left 1",
            "way a wait", "way a wait 1", "way a dark", "way a dark 0", "way a away", "way a swap", "way a swap right",
            "way a call", "way a call 1", "way a ready", "way a ready right", "way a ready right 20", "memory",
            "memory 0", "memory 0 0"};
        for (String text : cut) {
            faulty(2, text.length(), text);
            faulty(2, text.length() + 3, text + " \n ");
            faulty(2, 400, blanks(400 - text.length()) + text);
        }
        EDGES.says("2 it can't stand there: LINES");
        for (String first : "; 1 x free move wait dark away swap call ready left right".split(" ")) {
            faulty(2, 0, first);
            faulty(2, 6, "way a;" + first);
        }
        EDGES.says("2 it can't stand there: STEPS");
        for (String first : "1 x way memory left right".split(" ")) {
            faulty(2, 6, "way a " + first);
            faulty(2, 11, "way a away " + first);
        }
        EDGES.says("2 it can't stand there: a SIDE");
        for (String step : "free move swap ready".split(" ")) {
            for (String other : "1 x way memory free away ;".split(" ")) {
                faulty(2, 7 + step.length(), "way a " + step + " " + other);
            }
            sound(1, "way a " + step + " left" + ("free swap".contains(step) ? ";" : " 1;"));
            sound(1, "way a " + step + " right" + ("free swap".contains(step) ? ";" : " 1;"));
        }
        EDGES.says("2 it can't stand there: N");
        for (String step : "move left,ready right,wait,dark,call".split(",")) {
            for (String other : "x way left away ;".split(" ")) {
                faulty(2, 7 + step.length(), "way a " + step + " " + other);
            }
            faulty(2, 9 + step.length(), "way a " + step + " 1 1;");
        }
        EDGES.says("2 it can't stand there: no N");
        for (String step : "free left,swap right,away".split(",")) {
            faulty(2, 7 + step.length(), "way a " + step + " 1;");
            sound(1, "way a " + step + ";");
        }
        EDGES.says("2 it can't stand there: no SIDE");
        for (String step : "wait,dark,call,away".split(",")) {
            faulty(2, 7 + step.length(), "way a " + step + " left;");
        }
        EDGES.says("2 it can't stand there: memory");
        faulty(2, 7, "memory a 1;");
        faulty(2, 9, "memory 1 a;");
        faulty(2, 9, "memory 1 ;");
        faulty(2, 11, "memory 1 1 1;");
        faulty(2, 11, "memory 1 1 away;");
        faulty(2, 11, "memory 1 1 way b;");
    }

    private static void names() {
        EDGES.promise(18, x -> taped(x, 0));
        EDGES.says("4 the NAME is that of a WAY ahead");
        faulty(4, 10, "way a;way a;");
        faulty(4, 11, "way a; way a away;");
        faulty(4, 16, "way a;way b;way b;");
        faulty(4, 16, "way a;way b;way a;");
        faulty(4, 17, "way abcdefgh;way abcdefgh;");
        faulty(4, 46, "way a;way b;way c;way d;way e;way f;way g;way a;");
        EDGES.says("NAMES that are unlike");
        sound(2, "way a;way aa;");
        sound(2, "way aa;way a;");
        sound(2, "way abcdefgh;way abcdefg;");
        sound(2, "way abcdefgh;way bbcdefgh;");
        sound(2, "way abcdefgh;way abcdefgi;");
        EDGES.says("a NAME of the TEXT ahead isn't one of a WAY ahead");
        sound(2, "way b;way a;");
    }

    private static void tooMany() {
        EDGES.promise(18, x -> taped(x, 0));
        EDGES.says("5 the first TOKEN of a 9th LINE way");
        sound(8, EIGHT_WAYS + "memory 1 1;");
        faulty(5, 48, EIGHT_WAYS + "way i;");
        faulty(5, 50, EIGHT_WAYS + "  way");
        faulty(5, 59, EIGHT_WAYS + "memory 1 1;way i;");
        sound(8, "memory 1 1;" + EIGHT_WAYS + "memory 1 1;memory 2 2;");
        EDGES.says("5 the first TOKEN of a 9th STEP");
        sound(1, EIGHT_STEPS + ";");
        faulty(5, 46, EIGHT_STEPS + " away;");
        faulty(5, 46, EIGHT_STEPS + " wait 1;");
        faulty(5, 46, EIGHT_STEPS + " free");
        faulty(5, 46, EIGHT_STEPS + " ready left 0;");
        sound(2, EIGHT_STEPS + ";" + EIGHT_STEPS.replace("way a ", "way b ") + ";");
        faulty(5, 92, EIGHT_STEPS + ";" + EIGHT_STEPS.replace("way a ", "way b ") + " dark 1;");
        EDGES.says("eight WAYS of eight STEPS");
        String shortSteps = "way x" + " away".repeat(8) + ";";
        StringBuilder all = new StringBuilder();
        for (char name = 'a'; name <= 'h'; name++) {
            all.append(shortSteps.replace('x', name));
        }
        sound(8, all.toString());
        EDGES.leaves(x -> Edges.tell(x, all.toString()), 8, x -> x.way(7, 0));
    }

    private static void leastFault() {
        EDGES.promise(18, x -> taped(x, 0));
        EDGES.says("of one TOKEN the least");
        faulty(1, 46, EIGHT_STEPS + " abcdefghi;");
        faulty(1, 46, EIGHT_STEPS + " #;");
        faulty(2, 46, EIGHT_STEPS + " left;");
        faulty(2, 46, EIGHT_STEPS + " 99;");
        faulty(2, 46, EIGHT_STEPS + " way;");
        faulty(1, 48, EIGHT_WAYS + "#");
        faulty(2, 48, EIGHT_WAYS + "away");
        faulty(1, 11, "way a wait 9999;");
        faulty(2, 10, "way a free99;");
        faulty(2, 6, "way a 99;");
        EDGES.says("the first along the text");
        faulty(2, 6, "way a x #");
        faulty(3, 11, "way a wait 0 #");
        faulty(3, 11, "way a wait 0;way a;");
        faulty(4, 10, "way a;way a wait 0;");
        faulty(4, 10, "way a;way a #");
        faulty(1, 6, "way a # wait 0;");
        faulty(3, 7, "memory 21 21;");
        faulty(5, 46, EIGHT_STEPS + " wait 0;");
        faulty(5, 48, EIGHT_WAYS + "way a;");
    }

    private static void fault() {
        EDGES.promise(19, x -> Edges.tell(x, "way a wait 0;"));
        EDGES.says("its FAULT, its place. NONE for others");
        EDGES.asked(3, x -> x.fault(0));
        EDGES.asked(11, x -> x.fault(1));
        for (int n : new int[] {-1, 2, MIN, MAX}) {
            EDGES.refused(0, x -> x.fault(n));
        }
        EDGES.says("Of the latest text() that read bytes");
        EDGES.leaves(x -> x.text(1), 3, x -> x.fault(0));
        EDGES.leaves(x -> x.text(-1), 11, x -> x.fault(1));
        EDGES.leaves(x -> Edges.tell(x, "way a"), 2, x -> x.fault(0));
        EDGES.leaves(x -> Edges.tell(x, "way a"), 5, x -> x.fault(1));
        EDGES.says("its FAULT (0), its place (NONE)");
        EDGES.leaves(x -> Edges.tell(x, "way a;"), 0, x -> x.fault(0));
        EDGES.leaves(x -> Edges.tell(x, "way a;"), NONE, x -> x.fault(1));
        EDGES.says("a place of 0 and one of 400");
        EDGES.leaves(x -> Edges.tell(x, "#"), 0, x -> x.fault(1));
        EDGES.leaves(x -> Edges.tell(x, blanks(397) + "way"), 400, x -> x.fault(1));
    }

    private static void way() {
        EDGES.promise(20, x -> Edges.tell(x, "way a wait 20 move left 20 wait 1;way b free left dark 9 call 9 ready left 20;way c;"));
        EDGES.says("NONE: none such");
        for (int n : new int[] {-1, 3, 8, MIN, MAX}) {
            EDGES.refused(0, x -> x.way(n, 0));
            EDGES.refused(0, x -> x.way(n, 1));
        }
        for (int n : new int[] {-1, 2, MIN, MAX}) {
            EDGES.refused(0, x -> x.way(0, n));
        }
        EDGES.says("how many STEPS");
        EDGES.asked(3, x -> x.way(0, 0));
        EDGES.asked(4, x -> x.way(1, 0));
        EDGES.asked(0, x -> x.way(2, 0));
        EDGES.says("how many SECONDS go by: These six take no time");
        EDGES.asked(41, x -> x.way(0, 1));
        EDGES.asked(0, x -> x.way(1, 1));
        EDGES.asked(0, x -> x.way(2, 1));
        EDGES.says("no time for any of these six");
        EDGES.scene(x -> Edges.tell(x, "way a free left dark 9 away swap right call 1 ready right 9;"));
        EDGES.asked(6, x -> x.way(0, 0));
        EDGES.asked(0, x -> x.way(0, 1));
        EDGES.says("eight STEPS of twenty SECONDS");
        EDGES.scene(x -> Edges.tell(x, "way a" + " wait 20".repeat(7) + " move right 20;"));
        EDGES.asked(8, x -> x.way(0, 0));
        EDGES.asked(160, x -> x.way(0, 1));
    }

    private static void fits() {
        EDGES.promise(21, Edges::sitting);
        EDGES.says("NONE: none such: WAY");
        for (int n : new int[] {-1, 2, MIN, MAX}) {
            EDGES.refused(0, x -> x.fits(n, 0, 0, 0, 5, 0, 9));
        }
        EDGES.says("NONE: none such: PERSON");
        for (int n : new int[] {-1, 5, MIN, MAX}) {
            EDGES.refused(0, x -> x.fits(1, n, 0, 1, 5, 0, 99));
        }
        EDGES.says("FRIENDS: 0 and more, of PERSONS that there are, that one or not");
        for (int n : new int[] {-1, 32, MIN, MAX, 33}) {
            EDGES.refused(0, x -> x.fits(1, 3, n, 1, 5, 0, 99));
        }
        EDGES.asked(20, x -> x.fits(1, 3, 0, 1, 5, 0, 99));
        EDGES.asked(20, x -> x.fits(1, 3, 31, 1, 5, 0, 99));
        EDGES.asked(20, x -> x.fits(1, 3, 8, 1, 5, 0, 99));
        EDGES.asked(20, x -> x.fits(1, 3, 16, 1, 5, 0, 99));
        EDGES.says("NONE: none such: THING");
        for (int n : new int[] {-1, 2, MIN, MAX}) {
            EDGES.refused(0, x -> x.fits(1, 3, 0, n, 5, 0, 99));
        }
        EDGES.says("NONE: none such: SPOT");
        for (int n : new int[] {-1, 6, MIN, MAX}) {
            EDGES.refused(0, x -> x.fits(1, 3, 0, 1, n, 0, 99));
        }
        EDGES.says("NONE: none such: SECONDS a to b");
        int[][] bad = {{-1, 99}, {0, 100}, {30, 29}, {MIN, 99}, {0, MAX}, {MAX, MIN}};
        for (int[] span : bad) {
            EDGES.refused(0, x -> x.fits(1, 3, 0, 1, 5, span[0], span[1]));
        }
    }

    private static void fitsWithin() {
        EDGES.promise(21, x -> {
            x.thing(0);
            Edges.tell(x, "way a wait 3;way b;way c wait 20 wait 20 wait 20 wait 20 wait 19;"
                    + "way d wait 20 wait 20 wait 20 wait 20 wait 20;way e wait 20 wait 20 wait 20 wait 20 wait 20 wait 1;");
        });
        EDGES.says("with its last one not above b");
        EDGES.asked(4, x -> x.fits(0, 0, 0, 0, 3, 4, 6));
        EDGES.asked(NONE, x -> x.fits(0, 0, 0, 0, 3, 4, 5));
        EDGES.asked(NONE, x -> x.fits(0, 0, 0, 0, 3, 4, 4));
        EDGES.asked(97, x -> x.fits(0, 0, 0, 0, 3, 97, 99));
        EDGES.asked(NONE, x -> x.fits(0, 0, 0, 0, 3, 98, 99));
        EDGES.says("(the first, if no time goes by)");
        EDGES.asked(4, x -> x.fits(1, 0, 0, 0, 3, 4, 4));
        EDGES.asked(0, x -> x.fits(1, 0, 0, 0, 3, 0, 0));
        EDGES.asked(99, x -> x.fits(1, 0, 0, 0, 3, 99, 99));
        EDGES.says("it must be one of 0 to 99");
        EDGES.asked(0, x -> x.fits(2, 0, 0, 0, 3, 0, 99));
        EDGES.asked(1, x -> x.fits(2, 0, 0, 0, 3, 1, 99));
        EDGES.asked(NONE, x -> x.fits(2, 0, 0, 0, 3, 2, 99));
        EDGES.asked(0, x -> x.fits(3, 0, 0, 0, 3, 0, 99));
        EDGES.asked(NONE, x -> x.fits(3, 0, 0, 0, 3, 0, 98));
        EDGES.asked(NONE, x -> x.fits(3, 0, 0, 0, 3, 1, 99));
        EDGES.asked(NONE, x -> x.fits(4, 0, 0, 0, 3, 0, 99));
        EDGES.says("AT the first such one");
        EDGES.leaves(x -> Edges.tell(x, "way a dark 8;") + bit(x.light(30, 31, 0)), 30,
                x -> x.fits(0, 0, 0, 0, 3, 0, 99));
        EDGES.leaves(x -> Edges.tell(x, "way a dark 8;") + bit(x.light(30, 31, 0)), 31,
                x -> x.fits(0, 0, 0, 0, 3, 31, 99));
        EDGES.leaves(x -> Edges.tell(x, "way a dark 8;") + bit(x.light(30, 31, 0)), NONE,
                x -> x.fits(0, 0, 0, 0, 3, 0, 29));
        EDGES.leaves(x -> Edges.tell(x, "way a dark 8;") + bit(x.light(30, 31, 0)), NONE,
                x -> x.fits(0, 0, 0, 0, 3, 32, 99));
    }

    private static void reaches() {
        EDGES.promise(21, x -> {
            x.room(6);
            x.thing(0);
            x.move(0, 0, 1, 10);
            Edges.tell(x, "way a;");
        });
        EDGES.says("p REACHES both SPOTS, which are unlike");
        EDGES.asked(0, x -> x.fits(0, 0, 0, 0, 5, 0, 0));
        EDGES.asked(0, x -> x.fits(0, 0, 0, 0, 6, 0, 0));
        EDGES.asked(NONE, x -> x.fits(0, 0, 0, 0, 0, 0, 0));
        EDGES.asked(NONE, x -> x.fits(0, 0, 0, 0, 2, 0, 0));
        EDGES.asked(NONE, x -> x.fits(0, 0, 0, 0, 4, 0, 0));
        EDGES.asked(0, x -> x.fits(0, 5, 0, 0, 4, 0, 0));
        EDGES.asked(0, x -> x.fits(0, 1, 0, 0, 2, 0, 0));
        EDGES.asked(NONE, x -> x.fits(0, 2, 0, 0, 6, 0, 0));
        EDGES.asked(NONE, x -> x.fits(0, 4, 0, 0, 6, 0, 0));
        EDGES.says("where it lies as the WAY begins (behind all MOVES ahead of that SECOND)");
        EDGES.asked(10, x -> x.fits(0, 0, 0, 0, 1, 10, 10));
        EDGES.asked(NONE, x -> x.fits(0, 0, 0, 0, 1, 11, 11));
        EDGES.asked(NONE, x -> x.fits(0, 0, 0, 0, 0, 10, 10));
        EDGES.asked(11, x -> x.fits(0, 0, 0, 0, 0, 10, 11));
        EDGES.asked(NONE, x -> x.fits(0, 2, 0, 0, 6, 10, 10));
        EDGES.asked(11, x -> x.fits(0, 2, 0, 0, 6, 0, 99));
        EDGES.asked(10, x -> x.fits(0, 5, 0, 0, 6, 10, 99));
        EDGES.asked(NONE, x -> x.fits(0, 5, 0, 0, 6, 11, 99));
    }

    private static void free() {
        EDGES.promise(21, x -> {
            x.thing(0);
            x.hold(2, 1, 0, 50, 50);
            Edges.tell(x, "way a free left wait 3;way b wait 3 free left;way c free left;way d wait 1 free left wait 2;"
                    + "way e free right wait 3;");
        });
        EDGES.says("free: FREE in this SECOND and all behind it up to the last one of the WAY");
        EDGES.asked(47, x -> x.fits(0, 0, 0, 0, 3, 47, 99));
        EDGES.asked(51, x -> x.fits(0, 0, 0, 0, 3, 48, 99));
        EDGES.asked(NONE, x -> x.fits(0, 0, 0, 0, 3, 48, 52));
        EDGES.asked(51, x -> x.fits(0, 0, 0, 0, 3, 51, 53));
        EDGES.asked(47, x -> x.fits(3, 0, 0, 0, 3, 47, 99));
        EDGES.asked(50, x -> x.fits(3, 0, 0, 0, 3, 48, 99));
        EDGES.asked(48, x -> x.fits(4, 0, 0, 0, 3, 48, 99));
        EDGES.says("free: (in this alone, if it lies behind that)");
        EDGES.asked(46, x -> x.fits(1, 0, 0, 0, 3, 46, 99));
        EDGES.asked(48, x -> x.fits(1, 0, 0, 0, 3, 47, 99));
        EDGES.asked(NONE, x -> x.fits(1, 0, 0, 0, 3, 47, 49));
        EDGES.says("free: no time goes by");
        EDGES.asked(49, x -> x.fits(2, 0, 0, 0, 3, 49, 49));
        EDGES.asked(NONE, x -> x.fits(2, 0, 0, 0, 3, 50, 50));
        EDGES.asked(51, x -> x.fits(2, 0, 0, 0, 3, 50, 51));
        EDGES.says("as must be each SECOND that a STEP asks for: free");
        EDGES.asked(96, x -> x.fits(1, 0, 0, 0, 3, 96, 99));
        EDGES.asked(NONE, x -> x.fits(1, 0, 0, 0, 3, 97, 99));
        EDGES.asked(97, x -> x.fits(0, 0, 0, 0, 3, 97, 99));
        EDGES.says("FREE: it TRULY holds none");
        EDGES.leaves(x -> bit(x.hold(0, 2, 2, 60, 60)), 61, x -> x.fits(0, 0, 0, 0, 3, 58, 99));
        EDGES.says("FREE: also a FRIEND holds it");
        EDGES.asked(51, x -> x.fits(0, 0, 2, 0, 3, 48, 99));
        EDGES.says("FREE: and it isn't TIED");
        EDGES.leaves(x -> x.control(0, 0, 0, 0, 99, 1), 0, x -> x.fits(0, 0, 0, 0, 3, 0, 9));
    }

    private static void dark() {
        EDGES.promise(21, x -> {
            x.thing(0);
            x.light(0, 99, 9);
            x.light(30, 30, 5);
            x.light(31, 31, 4);
            x.light(32, 32, 0);
            Edges.tell(x, "way a dark 4;way b dark 0;way c dark 9;way d wait 2 dark 4;way e dark 5;way f dark 3;");
        });
        EDGES.says("dark: LIGHT of this SECOND is N or less");
        EDGES.asked(30, x -> x.fits(4, 0, 0, 0, 3, 0, 99));
        EDGES.asked(31, x -> x.fits(0, 0, 0, 0, 3, 0, 99));
        EDGES.asked(32, x -> x.fits(5, 0, 0, 0, 3, 0, 99));
        EDGES.asked(32, x -> x.fits(1, 0, 0, 0, 3, 0, 99));
        EDGES.asked(0, x -> x.fits(2, 0, 0, 0, 3, 0, 99));
        EDGES.asked(NONE, x -> x.fits(1, 0, 0, 0, 3, 33, 99));
        EDGES.says("dark: of this SECOND, not of the WAY's first one");
        EDGES.asked(29, x -> x.fits(3, 0, 0, 0, 3, 0, 99));
        EDGES.asked(NONE, x -> x.fits(3, 0, 0, 0, 3, 31, 99));
        EDGES.says("as must be each SECOND that a STEP asks for: dark");
        EDGES.leaves(x -> bit(x.light(0, 99, 0)), 97, x -> x.fits(3, 0, 0, 0, 3, 97, 99));
        EDGES.leaves(x -> bit(x.light(0, 99, 0)), NONE, x -> x.fits(3, 0, 0, 0, 3, 98, 99));
        EDGES.leaves(x -> bit(x.light(0, 99, 0)), 99, x -> x.fits(0, 0, 0, 0, 3, 99, 99));
    }

    private static void away() {
        EDGES.promise(21, x -> {
            x.room(4);
            x.thing(0);
            x.attend(2, 0, 10, 11);
            Edges.tell(x, "way a away;way b wait 2 away;");
        });
        EDGES.says("away: nobody but p and FRIENDS has EYES at the SPOT ahead of p in it");
        EDGES.asked(9, x -> x.fits(0, 0, 0, 0, 4, 9, 99));
        EDGES.asked(12, x -> x.fits(0, 0, 0, 0, 4, 10, 99));
        EDGES.asked(NONE, x -> x.fits(0, 0, 0, 0, 4, 10, 11));
        EDGES.asked(10, x -> x.fits(0, 0, 4, 0, 4, 10, 11));
        EDGES.asked(NONE, x -> x.fits(0, 0, 11, 0, 4, 10, 11));
        EDGES.asked(10, x -> x.fits(0, 1, 0, 0, 4, 10, 11));
        EDGES.asked(7, x -> x.fits(1, 0, 0, 0, 4, 7, 99));
        EDGES.asked(10, x -> x.fits(1, 0, 0, 0, 4, 8, 99));
        EDGES.says("away: EYES, also of who can't see");
        EDGES.leaves(x -> bit(x.light(0, 99, 0)), NONE, x -> x.fits(0, 0, 0, 0, 4, 10, 11));
        EDGES.says("away: p's own EYES don't count");
        EDGES.leaves(x -> bit(x.attend(0, 0, 0, 99)), 9, x -> x.fits(0, 0, 0, 0, 4, 9, 99));
        EDGES.says("away: EYES that are led there");
        EDGES.leaves(x -> x.lead(0, 1, 9, 9), 12, x -> x.fits(0, 0, 0, 0, 4, 9, 99));
        EDGES.leaves(x -> x.lead(4, 1, 10, 10), 10, x -> x.fits(0, 0, 0, 0, 4, 10, 99));
        EDGES.says("as must be each SECOND that a STEP asks for: away");
        EDGES.asked(97, x -> x.fits(1, 0, 0, 0, 4, 97, 99));
        EDGES.asked(NONE, x -> x.fits(1, 0, 0, 0, 4, 98, 99));
    }

    private static void swap() {
        EDGES.promise(21, x -> {
            x.room(4);
            x.thing(0);
            x.hold(2, 0, 1, 10, 20);
            x.hold(7, 0, 0, 0, 99);
            Edges.tell(x, "way a swap left;way b swap left free left;way c free left swap left;"
                    + "way d swap left move left 2;way e move left 1 swap left;way f wait 1 swap left;"
                    + "way g swap right;way h swap left free right;");
        });
        EDGES.says("swap: p's other HAND is TRULY held by somebody in this SECOND");
        EDGES.asked(10, x -> x.fits(0, 0, 0, 0, 4, 0, 99));
        EDGES.asked(20, x -> x.fits(0, 0, 0, 0, 4, 20, 99));
        EDGES.asked(NONE, x -> x.fits(0, 0, 0, 0, 4, 0, 9));
        EDGES.asked(NONE, x -> x.fits(0, 0, 0, 0, 4, 21, 99));
        EDGES.asked(9, x -> x.fits(5, 0, 0, 0, 4, 0, 99));
        EDGES.asked(10, x -> x.fits(0, 0, 2, 0, 4, 0, 99));
        EDGES.asked(0, x -> x.fits(6, 0, 0, 0, 4, 0, 99));
        EDGES.says("swap: HANDS that only SEEM held aren't");
        EDGES.leaves(x -> bit(x.hold(2, 1, 4, 0, 99)), NONE, x -> x.fits(0, 0, 0, 0, 4, 0, 99));
        EDGES.says("swap: nobody but p and FRIENDS SEES the SPOT ahead of p in it");
        EDGES.leaves(x -> bit(x.attend(2, 0, 10, 14)), 15, x -> x.fits(0, 0, 0, 0, 4, 0, 99));
        EDGES.leaves(x -> bit(x.attend(2, 0, 10, 14)), 10, x -> x.fits(0, 0, 4, 0, 4, 0, 99));
        EDGES.leaves(x -> bit(x.attend(2, 0, 10, 14) && x.light(12, 12, 5)), 15, x -> x.fits(0, 0, 0, 0, 4, 0, 99));
        EDGES.leaves(x -> bit(x.attend(2, 0, 10, 14) && x.light(12, 12, 4)), 12, x -> x.fits(0, 0, 0, 0, 4, 0, 99));
        EDGES.leaves(x -> bit(x.attend(0, 0, 0, 99)), 10, x -> x.fits(0, 0, 0, 0, 4, 0, 99));
        EDGES.leaves(x -> bit(x.attend(2, 4, 0, 99)), 10, x -> x.fits(0, 0, 0, 0, 4, 0, 99));
        EDGES.says("swap: from this STEP on whoever TRULY holds it doesn't count (it may be FREE so)");
        EDGES.asked(10, x -> x.fits(1, 0, 0, 0, 4, 0, 99));
        EDGES.asked(NONE, x -> x.fits(2, 0, 0, 0, 4, 0, 99));
        EDGES.asked(NONE, x -> x.fits(7, 0, 0, 0, 4, 0, 99));
        EDGES.leaves(x -> bit(x.hold(0, 2, 2, 10, 19)), 20, x -> x.fits(1, 0, 0, 0, 4, 0, 99));
        EDGES.says("swap: and is not VOUCHED for by that");
        EDGES.asked(10, x -> x.fits(3, 0, 0, 0, 4, 0, 99));
        EDGES.asked(20, x -> x.fits(3, 0, 0, 0, 4, 20, 99));
        EDGES.asked(NONE, x -> x.fits(4, 0, 0, 0, 4, 0, 99));
        EDGES.asked(9, x -> x.fits(4, 0, 8, 0, 4, 0, 99));
        EDGES.says("swap: in this WAY alone, and anew in each SECOND that is tried");
        EDGES.leaves(x -> x.fits(1, 0, 0, 0, 4, 0, 99), NONE, x -> x.fits(2, 0, 0, 0, 4, 0, 99));
        EDGES.leaves(x -> Edges.tell(x, "way a free left swap left wait 1;"), NONE, x -> x.fits(0, 0, 0, 0, 4, 0, 99));
        EDGES.leaves(x -> Edges.tell(x, "way a move left 1 swap left dark 0;"), NONE, x -> x.fits(0, 0, 0, 0, 4, 0, 99));
        EDGES.says("swap: but by who SEES the SPOT");
        EDGES.leaves(x -> bit(x.attend(2, 0, 11, 19)), 20, x -> x.fits(3, 0, 0, 0, 4, 0, 99));
        EDGES.says("as must be each SECOND that a STEP asks for: swap");
        EDGES.leaves(x -> bit(x.hold(2, 0, 1, 0, 99)), 98, x -> x.fits(5, 0, 0, 0, 4, 98, 99));
        EDGES.leaves(x -> bit(x.hold(2, 0, 1, 0, 99)), NONE, x -> x.fits(5, 0, 0, 0, 4, 99, 99));
    }

    private static void call() {
        EDGES.promise(21, x -> {
            x.room(4);
            x.thing(0);
            x.attend(2, 0, 0, 99);
            Edges.tell(x, "way a call 1 away;way b call 9 away;way c call 5 call 2 away;way d call 2 call 5 away;"
                    + "way e away call 9;way f call 5 move left 1;way g wait 1 call 9;");
        });
        EDGES.says("call: each other PERSON whose FIRM is below N");
        EDGES.asked(0, x -> x.fits(0, 0, 0, 0, 1, 0, 9));
        EDGES.leaves(x -> bit(x.person(2, 5, 1)), NONE, x -> x.fits(0, 0, 0, 0, 1, 0, 9));
        EDGES.leaves(x -> bit(x.person(2, 5, 8)), 0, x -> x.fits(1, 0, 0, 0, 1, 0, 9));
        EDGES.leaves(x -> bit(x.person(2, 5, 9)), NONE, x -> x.fits(1, 0, 0, 0, 1, 0, 9));
        EDGES.says("call: of several calls the greatest N");
        for (int i = 2; i <= 3; i++) {
            int way = i;
            EDGES.leaves(x -> bit(x.person(2, 5, 4)), 0, x -> x.fits(way, 0, 0, 0, 1, 0, 9));
            EDGES.leaves(x -> bit(x.person(2, 5, 5)), NONE, x -> x.fits(way, 0, 0, 0, 1, 0, 9));
        }
        EDGES.says("call: from this STEP on");
        EDGES.asked(NONE, x -> x.fits(4, 0, 0, 0, 1, 0, 9));
        EDGES.says("call: EYES are at the MIDDLE");
        EDGES.asked(0, x -> x.fits(5, 0, 0, 0, 1, 0, 9));
        EDGES.asked(NONE, x -> x.fits(5, 0, 0, 0, 4, 0, 9));
        EDGES.asked(0, x -> x.fits(5, 0, 14, 0, 4, 0, 9));
        EDGES.asked(NONE, x -> x.fits(5, 0, 12, 0, 4, 0, 9));
        EDGES.leaves(x -> bit(x.light(3, 3, 4)), 3, x -> x.fits(5, 0, 0, 0, 4, 0, 9));
        EDGES.says("call: not p's own");
        EDGES.leaves(x -> bit(x.person(1, 5, 9) && x.person(2, 5, 9) && x.person(3, 5, 9)
                && x.attend(2, NONE, 0, 99)), 0, x -> x.fits(5, 0, 0, 0, 4, 0, 9));
        EDGES.says("call: LEADS don't go ahead of that");
        EDGES.leaves(x -> x.lead(0, 9, 0, 99), 0, x -> x.fits(1, 0, 0, 0, 1, 0, 9));
        EDGES.says("call: in this WAY alone");
        EDGES.leaves(x -> x.fits(1, 0, 0, 0, 1, 0, 9), NONE, x -> x.fits(4, 0, 0, 0, 1, 0, 9));
        EDGES.says("call: it asks for no SECOND");
        EDGES.asked(99, x -> x.fits(6, 0, 0, 0, 1, 99, 99));
    }

    private static void ready() {
        EDGES.promise(21, x -> {
            x.room(4);
            x.thing(0);
            x.hold(2, 0, 0, 0, 29);
            x.hold(2, 0, 0, 31, 99);
            Edges.tell(x, "way a ready left 1;way b ready left 3;way c ready left 20;way d wait 2 ready left 3;"
                    + "way e ready right 2;way f swap left call 9 ready left 3;");
        });
        EDGES.says("ready: in one of the N SECONDS ahead of the WAY's first one FREE");
        EDGES.asked(31, x -> x.fits(0, 0, 0, 0, 4, 0, 99));
        EDGES.asked(NONE, x -> x.fits(0, 0, 0, 0, 4, 30, 30));
        EDGES.asked(NONE, x -> x.fits(0, 0, 0, 0, 4, 32, 99));
        EDGES.asked(33, x -> x.fits(1, 0, 0, 0, 4, 33, 99));
        EDGES.asked(NONE, x -> x.fits(1, 0, 0, 0, 4, 34, 99));
        EDGES.asked(50, x -> x.fits(2, 0, 0, 0, 4, 50, 99));
        EDGES.asked(NONE, x -> x.fits(2, 0, 0, 0, 4, 51, 99));
        EDGES.says("ready: ahead of the WAY's first one, not of this SECOND");
        EDGES.asked(31, x -> x.fits(3, 0, 0, 0, 4, 0, 99));
        EDGES.asked(33, x -> x.fits(3, 0, 0, 0, 4, 33, 99));
        EDGES.asked(NONE, x -> x.fits(3, 0, 0, 0, 4, 34, 99));
        EDGES.says("ready: no SECOND is ahead of 0");
        EDGES.asked(NONE, x -> x.fits(4, 0, 0, 0, 4, 0, 0));
        EDGES.asked(1, x -> x.fits(4, 0, 0, 0, 4, 0, 1));
        EDGES.says("ready: in that and all behind it, ahead of the first one, nobody SEES the SPOT");
        EDGES.leaves(x -> bit(x.attend(2, 0, 30, 30)), NONE, x -> x.fits(1, 0, 0, 0, 4, 0, 99));
        EDGES.leaves(x -> bit(x.attend(2, 0, 29, 29)), 31, x -> x.fits(1, 0, 0, 0, 4, 0, 99));
        EDGES.leaves(x -> bit(x.attend(2, 0, 31, 31)), 31, x -> x.fits(1, 0, 0, 0, 4, 0, 99));
        EDGES.leaves(x -> bit(x.attend(2, 0, 31, 31)), NONE, x -> x.fits(1, 0, 0, 0, 4, 32, 99));
        EDGES.leaves(x -> bit(x.attend(2, 0, 32, 32)), 32, x -> x.fits(1, 0, 0, 0, 4, 32, 99));
        EDGES.leaves(x -> bit(x.attend(2, 0, 32, 32)), NONE, x -> x.fits(1, 0, 0, 0, 4, 33, 99));
        EDGES.leaves(x -> bit(x.attend(2, 0, 32, 32)), 33, x -> x.fits(1, 0, 4, 0, 4, 33, 99));
        EDGES.leaves(x -> bit(x.attend(0, 0, 0, 99)), 33, x -> x.fits(1, 0, 0, 0, 4, 33, 99));
        EDGES.leaves(x -> bit(x.attend(2, 0, 32, 32) && x.light(32, 32, 4)), 33, x -> x.fits(1, 0, 0, 0, 4, 33, 99));
        EDGES.leaves(x -> bit(x.attend(2, 4, 0, 99)), 33, x -> x.fits(1, 0, 0, 0, 4, 33, 99));
        EDGES.says("ready: one FREE SECOND behind one that is seen");
        EDGES.leaves(x -> bit(x.hold(2, NONE, NONE, 30, 32) && x.attend(2, 0, 30, 31)), 33,
                x -> x.fits(1, 0, 0, 0, 4, 0, 99));
        EDGES.says("ready: the SPOT at which the THING lies as the WAY begins");
        EDGES.leaves(x -> x.move(1, 0, 1, 32) + bit(x.attend(2, 1, 30, 30)), NONE, x -> x.fits(1, 0, 0, 0, 4, 33, 99));
        EDGES.leaves(x -> x.move(1, 0, 1, 33) + bit(x.attend(2, 1, 30, 30)), 33, x -> x.fits(1, 0, 0, 0, 4, 33, 99));
        EDGES.says("ready: (swap and call aside)");
        EDGES.leaves(x -> bit(x.hold(3, 1, 1, 0, 99)), 31, x -> x.fits(5, 0, 0, 0, 1, 0, 99));
        EDGES.leaves(x -> bit(x.hold(3, 1, 1, 0, 99)), NONE, x -> x.fits(5, 0, 0, 0, 1, 34, 99));
        EDGES.leaves(x -> bit(x.hold(3, 1, 1, 0, 99) && x.attend(2, 0, 30, 30)), NONE,
                x -> x.fits(5, 0, 0, 0, 1, 0, 99));
        EDGES.leaves(x -> bit(x.hold(3, 1, 1, 0, 99)) + x.thing(4), 31, x -> x.fits(5, 0, 0, 1, 1, 0, 99));
    }

    private static void move() {
        EDGES.promise(21, x -> {
            x.room(5);
            x.thing(0);
            Edges.tell(x, "way a move left 3;way b move right 1;way c wait 2 move left 1 wait 2;way d move left 20;"
                    + "way e wait 20 wait 20 wait 20 wait 20 move left 20;");
        });
        EDGES.says("move: in each of which nobody but p and FRIENDS TRULY VOUCHES for p's HAND");
        EDGES.leaves(x -> bit(x.hold(2, 1, 0, 50, 50)), 47, x -> x.fits(0, 0, 0, 0, 5, 47, 99));
        EDGES.leaves(x -> bit(x.hold(2, 1, 0, 50, 50)), 51, x -> x.fits(0, 0, 0, 0, 5, 48, 99));
        EDGES.leaves(x -> bit(x.hold(2, 1, 0, 50, 50)), 48, x -> x.fits(0, 0, 2, 0, 5, 48, 99));
        EDGES.leaves(x -> bit(x.hold(2, 1, 0, 50, 50)), 50, x -> x.fits(1, 0, 0, 0, 5, 50, 99));
        EDGES.leaves(x -> bit(x.hold(2, 0, 4, 50, 50)), 48, x -> x.fits(0, 0, 0, 0, 5, 48, 99));
        EDGES.leaves(x -> bit(x.hold(2, 1, 0, 50, 50)), 46, x -> x.fits(2, 0, 0, 0, 5, 46, 99));
        EDGES.leaves(x -> bit(x.hold(2, 1, 0, 50, 50)), 49, x -> x.fits(2, 0, 0, 0, 5, 48, 99));
        EDGES.says("move: or SEES the SPOT at which the THING lies as the WAY begins");
        EDGES.leaves(x -> x.move(1, 0, 1, 0) + bit(x.attend(3, 1, 50, 50)), 47, x -> x.fits(0, 0, 0, 0, 5, 47, 99));
        EDGES.leaves(x -> x.move(1, 0, 1, 0) + bit(x.attend(3, 1, 50, 50)), 51, x -> x.fits(0, 0, 0, 0, 5, 48, 99));
        EDGES.leaves(x -> x.move(1, 0, 1, 0) + bit(x.attend(3, 1, 50, 50)), 48, x -> x.fits(0, 0, 8, 0, 5, 48, 99));
        EDGES.leaves(x -> x.move(1, 0, 1, 0) + bit(x.attend(3, 1, 50, 50) && x.light(50, 50, 4)), 48,
                x -> x.fits(0, 0, 0, 0, 5, 48, 99));
        EDGES.leaves(x -> x.move(1, 0, 1, 49) + bit(x.attend(3, 1, 50, 50)), 48, x -> x.fits(0, 0, 0, 0, 5, 48, 99));
        EDGES.leaves(x -> x.move(1, 0, 1, 47) + bit(x.attend(3, 1, 50, 50)), 51, x -> x.fits(0, 0, 0, 0, 5, 48, 99));
        EDGES.says("move: or the other SPOT");
        EDGES.leaves(x -> bit(x.attend(3, 5, 50, 50)), 47, x -> x.fits(0, 0, 0, 0, 5, 47, 99));
        EDGES.leaves(x -> bit(x.attend(3, 5, 50, 50)), 51, x -> x.fits(0, 0, 0, 0, 5, 48, 99));
        EDGES.leaves(x -> bit(x.attend(3, 5, 50, 50)), 48, x -> x.fits(0, 0, 0, 0, 1, 48, 99));
        EDGES.says("move: or SEES the SPOT ahead of p, who VOUCHES so");
        EDGES.leaves(x -> x.move(1, 0, 1, 0) + bit(x.attend(3, 0, 50, 50)), 51, x -> x.fits(0, 0, 0, 0, 5, 48, 99));
        EDGES.says("move: p itself may see all");
        EDGES.leaves(x -> bit(x.attend(0, 5, 0, 99)), 48, x -> x.fits(0, 0, 0, 0, 5, 48, 99));
        EDGES.says("move: N SECONDS go by");
        EDGES.asked(80, x -> x.fits(3, 0, 0, 0, 5, 80, 99));
        EDGES.asked(NONE, x -> x.fits(3, 0, 0, 0, 5, 81, 99));
        EDGES.asked(0, x -> x.fits(4, 0, 0, 0, 5, 0, 99));
        EDGES.leaves(x -> bit(x.attend(3, 5, 99, 99)), NONE, x -> x.fits(4, 0, 0, 0, 5, 0, 99));
        EDGES.leaves(x -> bit(x.attend(3, 5, 0, 79)), 0, x -> x.fits(4, 0, 0, 0, 5, 0, 99));
        EDGES.leaves(x -> bit(x.attend(3, 5, 80, 80)), NONE, x -> x.fits(4, 0, 0, 0, 5, 0, 99));
        EDGES.says("move: the HAND needn't be FREE");
        EDGES.leaves(x -> bit(x.hold(0, 2, 2, 0, 99)), 48, x -> x.fits(0, 0, 0, 0, 5, 48, 99));
    }

    /** The same for a PERSON that isn't the first one, with the first one as its watcher or holder. */
    private static void othersTurn() {
        EDGES.promise(21, x -> {
            x.room(4);
            x.thing(1);
            x.hold(4, 2, 2, 0, 99);
            x.hold(0, 3, 3, 0, 99);
            Edges.tell(x, "way a swap left move left 1;way b swap right move right 1;way c swap left move right 1;"
                    + "way d swap right move left 1;way e swap right free right;way f swap right free left;way g swap left away;");
        });
        EDGES.says("swap: p's HAND of that SIDE, of both SIDES");
        EDGES.asked(0, x -> x.fits(0, 1, 0, 0, 4, 0, 9));
        EDGES.asked(0, x -> x.fits(1, 1, 0, 0, 4, 0, 9));
        EDGES.asked(NONE, x -> x.fits(2, 1, 0, 0, 4, 0, 9));
        EDGES.asked(NONE, x -> x.fits(3, 1, 0, 0, 4, 0, 9));
        EDGES.asked(0, x -> x.fits(2, 1, 1, 0, 4, 0, 9));
        EDGES.asked(0, x -> x.fits(3, 1, 4, 0, 4, 0, 9));
        EDGES.asked(0, x -> x.fits(4, 1, 0, 0, 4, 0, 9));
        EDGES.asked(NONE, x -> x.fits(5, 1, 0, 0, 4, 0, 9));
        EDGES.says("it can see in a SECOND whose LIGHT is NEED or more: PERSON 0 for others");
        EDGES.leaves(x -> bit(x.attend(0, 1, 0, 9)), NONE, x -> x.fits(0, 1, 0, 0, 4, 0, 9));
        EDGES.leaves(x -> bit(x.attend(0, 1, 0, 9) && x.light(7, 7, 5)), NONE, x -> x.fits(0, 1, 0, 0, 4, 0, 9));
        EDGES.leaves(x -> bit(x.attend(0, 1, 0, 9) && x.light(7, 7, 4)), 7, x -> x.fits(0, 1, 0, 0, 4, 0, 9));
        EDGES.leaves(x -> bit(x.attend(0, 1, 0, 9)), NONE, x -> x.fits(6, 1, 0, 0, 4, 0, 9));
    }

    /** A question asked ahead of a change has no part in what is asked behind it. */
    private static void asItIsNow() {
        Edges.Scene scene = x -> {
            x.thing(0);
            x.image(0);
            x.attend(1, 3, 0, 9);
            Edges.tell(x, "way a move left 1;");
            x.fits(0, 0, 0, 0, 3, 0, 99);
        };
        EDGES.promise(21, scene);
        EDGES.says("by all as it is now");
        EDGES.asked(10, x -> x.fits(0, 0, 0, 0, 3, 0, 99));
        EDGES.leaves(x -> bit(x.person(1, 9, 0) && x.light(4, 4, 8)), 4, x -> x.fits(0, 0, 0, 0, 3, 0, 99));
        EDGES.leaves(x -> bit(x.light(4, 4, 4)), 4, x -> x.fits(0, 0, 0, 0, 3, 0, 99));
        EDGES.leaves(x -> bit(x.attend(1, NONE, 4, 4)), 4, x -> x.fits(0, 0, 0, 0, 3, 0, 99));
        EDGES.leaves(x -> x.lead(1, 1, 4, 4), 4, x -> x.fits(0, 0, 0, 0, 3, 0, 99));
        EDGES.leaves(x -> bit(x.hold(4, 0, 0, 10, 19)), 20, x -> x.fits(0, 0, 0, 0, 3, 0, 99));
        EDGES.leaves(x -> bit(x.restore(0)), 0, x -> x.fits(0, 0, 0, 0, 3, 0, 99));
        EDGES.leaves(x -> bit(x.room(4)) + x.thing(0), 0, x -> x.fits(0, 0, 0, 0, 3, 0, 99));
        EDGES.leaves(x -> bit(x.room(3)) + x.thing(0), 0, x -> x.fits(0, 0, 0, 0, 3, 0, 99));
        EDGES.leaves(x -> x.move(0, 0, 3, 9), NONE, x -> x.fits(0, 0, 0, 0, 3, 0, 99));
        EDGES.leaves(x -> Edges.tell(x, "way a move right 3 dark 9;"), 10, x -> x.fits(0, 0, 0, 0, 3, 0, 99));
        EDGES.leaves(x -> Edges.tell(x, "way a dark 9;"), 0, x -> x.fits(0, 0, 0, 0, 3, 0, 99));
        EDGES.says("and of NEED alone");
        EDGES.scene(x -> {
            scene.set(x);
            x.light(0, 99, 5);
            x.fits(0, 0, 0, 0, 3, 0, 99);
        });
        EDGES.leaves(x -> bit(x.person(1, 6, 0)), 0, x -> x.fits(0, 0, 0, 0, 3, 0, 99));
        EDGES.says("and of FIRM alone");
        EDGES.scene(x -> {
            scene.set(x);
            x.lead(1, 5, 0, 5);
            x.fits(0, 0, 0, 0, 3, 0, 99);
        });
        EDGES.leaves(x -> bit(x.person(1, 5, 5)), 10, x -> x.fits(0, 0, 0, 0, 3, 0, 99));
        EDGES.leaves(x -> bit(x.person(1, 5, 4)), 0, x -> x.fits(0, 0, 0, 0, 3, 0, 99));
    }

    private WaysEdgesTest() {
    }
}
