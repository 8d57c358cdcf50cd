/** Each promise of the document, by hand: ordinary inputs, the edges that it names, and wrong inputs with STATUS. */
public final class PromisesTest {
    private static final int NONE = RapTable.NONE;
    private static final int MAX = Integer.MAX_VALUE;
    private static final int MIN = Integer.MIN_VALUE;

    private static int wrong;
    private static int promise;
    private static int asked;

    private static RapTable x;

    public static void main(String[] args) {
        newObject();
        room();
        person();
        light();
        attend();
        lead();
        hold();
        thing();
        move();
        where();
        saw();
        at();
        vouch();
        gap();
        image();
        restore();
        feed();
        text();
        textFaults();
        fault();
        way();
        fits();
        fitsFree();
        fitsDarkAndAway();
        fitsSwap();
        fitsCall();
        fitsReady();
        fitsMove();
        report();
        right();
        honest();
        agree();
        stories();
        least();
        pass();
        culprits();
        record();
        control();
        closes();
        cheapest();
        opens();
        next();
        trial();
        luck();
        chance();
        ease();
        fair();
        status();
        count();
        goneThings();
        System.out.println(wrong == 0 ? asked + " answers by hand are as due" : wrong + " answers are not as due");
        if (wrong != 0) {
            System.exit(1);
        }
    }

    private static void begin(int number, int seats) {
        promise = number;
        x = new RapTable();
        if (seats != 3) {
            due(1, x.room(seats), "room");
        }
    }

    private static void due(long want, long got, String call) {
        asked++;
        if (want != got) {
            wrong++;
            StackTraceElement line = new Throwable().getStackTrace()[1];
            if (line.getMethodName().equals("due")) {
                line = new Throwable().getStackTrace()[2];
            }
            System.out.println("promise " + promise + ", line " + line.getLineNumber() + ": " + call + " answered " + got
                    + ", due is " + want);
        }
    }

    private static void due(long want, boolean got, String call) {
        due(want, got ? 1 : 0, call);
    }

    private static void refusals(int one, int two, int three, int four, int five) {
        due(one, x.status(1), "status(1)");
        due(two, x.status(2), "status(2)");
        due(three, x.status(3), "status(3)");
        due(four, x.status(4), "status(4)");
        due(five, x.status(5), "status(5)");
    }

    private static void put(String text) {
        for (int i = 0; i < text.length(); i += 20) {
            int[] five = new int[5];
            for (int k = 0; k < 20; k++) {
                five[k / 4] = five[k / 4] << 8 | (i + k < text.length() ? text.charAt(i + k) : ' ');
            }
            x.feed(five[0], five[1], five[2], five[3], five[4]);
        }
    }

    private static int write(String text) {
        put(text);
        return x.text(text.length());
    }

    private static void faulty(int kind, int place, String text) {
        int before = x.status(4);
        due(NONE, write(text), "text of <" + text + ">");
        due(kind, x.fault(0), "fault(0) of <" + text + ">");
        due(place, x.fault(1), "fault(1) of <" + text + ">");
        due(before + 1, x.status(4), "status(4) of <" + text + ">");
        due(0, x.count(10), "the tape behind <" + text + ">");
    }

    private static void sound(int ways, String text) {
        due(ways, write(text), "text of <" + text + ">");
        due(0, x.fault(0), "fault(0) of <" + text + ">");
        due(NONE, x.fault(1), "fault(1) of <" + text + ">");
    }

    private static void newObject() {
        begin(1, 3);
        due(-1, RapTable.NONE, "NONE");
        due(3, x.count(0), "count(0)");
        for (int what = 1; what <= 10; what++) {
            due(0, x.count(what), "count(" + what + ")");
        }
        refusals(0, 0, 0, 0, 0);
        for (int second = 0; second < 100; second += 33) {
            due(9, x.at(0, 0, second), "light");
            for (int person = 0; person < 3; person++) {
                due(NONE, x.at(1, person, second), "eyes");
                due(0, x.at(5, person, second), "led");
            }
            for (int hand = 0; hand < 6; hand++) {
                due(1, x.at(2, hand, second), "free");
                due(NONE, x.at(3, hand, second), "seems");
                due(NONE, x.at(4, hand, second), "truly");
                due(0, x.vouch(hand, second, true), "vouch");
            }
        }
        due(0, x.fault(0), "fault(0)");
        due(NONE, x.fault(1), "fault(1)");
        // NEED is 5 and FIRM 0 at first
        x.attend(1, 0, 0, 99);
        x.light(0, 0, 5);
        x.light(1, 1, 4);
        due(2, x.vouch(0, 0, true), "need 5 at first");
        due(0, x.vouch(0, 1, true), "need 5 at first");
        x.lead(2, 1, 50, 50);
        due(2, x.at(1, 1, 50), "firm 0 at first");
        due(0, x.restore(0), "no image at first");
    }

    private static void room() {
        begin(2, 3);
        for (int n : new int[] {2, 10, 0, -1, MAX, MIN}) {
            due(0, x.room(n), "room(" + n + ")");
        }
        refusals(0, 6, 0, 0, 0);
        due(3, x.count(0), "count(0)");
        due(1, x.room(9), "room(9)");
        due(9, x.count(0), "count(0)");
        due(1, x.room(3), "room(3)");
        x.person(0, 9, 9);
        x.light(0, 99, 1);
        x.attend(0, 1, 0, 99);
        x.lead(1, 5, 0, 99);
        x.hold(0, 2, 2, 0, 99);
        x.thing(0);
        x.move(1, 0, 3, 5);
        x.image(1);
        sound(1, "way a wait 3;");
        put("abc");
        x.report(0, 0, 0, 1, 0, 1, 0);
        x.control(1, 0, 5, 0, 1, 1);
        x.trial(2, 1);
        due(0, x.room(11), "room(11)");
        due(1, x.count(3), "a refusal changes nothing");
        due(1, x.room(5), "room(5)");
        int[] all = {5, 0, 0, 0, 1, 0, 0, 0, 0, 0, 20};
        for (int what = 0; what < all.length; what++) {
            due(all[what], x.count(what), "count(" + what + ")");
        }
        due(7, x.status(2), "STATUS stays");
        due(3, x.way(0, 1), "the WAYS stay");
        due(9, x.at(0, 0, 5), "light");
        due(NONE, x.at(1, 0, 5), "eyes");
        due(NONE, x.at(4, 0, 5), "truly");
        due(0, x.restore(1), "no image since room()");
        due(1, x.status(5), "status(5)");
        // NEED and FIRM are as at first
        x.attend(0, 1, 0, 99);
        x.light(7, 7, 5);
        due(1, x.vouch(2, 7, true), "need");
        x.lead(2, 1, 7, 7);
        due(2, x.at(1, 0, 7), "firm");
    }

    private static void person() {
        begin(3, 4);
        due(1, x.person(0, 0, 0), "person");
        due(1, x.person(3, 9, 9), "person");
        due(0, x.person(4, 0, 0), "person");
        due(0, x.person(-1, 0, 0), "person");
        due(0, x.person(4, 10, 0), "of several the least");
        due(0, x.person(0, 10, 0), "need");
        due(0, x.person(0, -1, 0), "need");
        due(0, x.person(0, 0, 10), "firm");
        due(0, x.person(0, 0, -1), "firm");
        refusals(3, 4, 0, 0, 0);
        x.attend(0, 1, 0, 99);
        x.attend(3, 1, 0, 99);
        x.light(4, 4, 8);
        due(9, x.vouch(2, 3, true), "need 9 by light 9");
        due(1, x.vouch(2, 4, true), "need 9 by light 8");
        x.light(4, 4, 0);
        due(1, x.vouch(2, 4, true), "need 0 by light 0");
        x.lead(2, 9, 0, 0);
        due(1, x.at(1, 3, 0), "firm 9 below no pull");
        due(2, x.at(1, 0, 0), "firm 0");
    }

    private static void light() {
        begin(4, 3);
        due(1, x.light(0, 0, 0), "light");
        due(1, x.light(99, 99, 3), "light");
        due(1, x.light(5, 6, 9), "light");
        due(0, x.light(-1, 5, 3), "light");
        due(0, x.light(0, 100, 3), "light");
        due(0, x.light(6, 5, 3), "light");
        due(0, x.light(5, 6, 10), "light");
        due(0, x.light(5, 6, -1), "light");
        refusals(0, 5, 0, 0, 0);
        due(0, x.at(0, 0, 0), "light of 0");
        due(9, x.at(0, 0, 1), "light of 1");
        due(3, x.at(0, 0, 99), "light of 99");
        due(9, x.at(0, 0, 98), "light of 98");
        due(1, x.light(0, 99, 4), "light");
        due(4, x.at(0, 0, 98), "light of 98");
    }

    private static void attend() {
        begin(5, 4);
        due(1, x.attend(3, 4, 10, 20), "attend the middle");
        due(4, x.at(1, 3, 10), "eyes");
        due(4, x.at(1, 3, 20), "eyes");
        due(NONE, x.at(1, 3, 9), "eyes");
        due(NONE, x.at(1, 3, 21), "eyes");
        due(1, x.attend(3, NONE, 15, 15), "attend none");
        due(NONE, x.at(1, 3, 15), "eyes");
        due(4, x.at(1, 3, 16), "eyes");
        due(0, x.attend(4, 0, 0, 1), "no such person");
        due(0, x.attend(0, 5, 0, 1), "no such spot");
        due(0, x.attend(0, -2, 0, 1), "no such spot");
        due(0, x.attend(0, 5, 1, 0), "of several the least");
        due(0, x.attend(0, 0, 1, 0), "seconds");
        due(0, x.attend(0, 0, 0, 100), "seconds");
        refusals(4, 2, 0, 0, 0);
        due(1, x.attend(0, 0, 0, 1), "one's own spot");
        due(0, x.vouch(0, 0, true), "nobody vouches for a hand of its own");
    }

    private static void lead() {
        begin(6, 4);
        x.person(1, 5, 4);
        x.attend(0, 0, 0, 99);
        due(0, x.lead(4, 4, 10, 20), "lead");
        due(4, x.at(1, 0, 10), "firm 0 is below 4");
        due(NONE, x.at(1, 1, 10), "firm 4 isn't below 4");
        due(1, x.at(5, 0, 10), "led");
        due(0, x.at(5, 1, 10), "led");
        due(0, x.at(1, 0, 9), "without a lead where told");
        due(0, x.at(1, 0, 21), "without a lead where told");
        due(1, x.lead(1, 5, 5, 30), "a lead that begins earlier");
        due(4, x.at(1, 0, 15), "the one that begins latest");
        due(1, x.at(1, 1, 15), "the one that leads it");
        due(1, x.at(1, 0, 25), "the first is over");
        due(2, x.lead(2, 1, 10, 12), "a like one");
        due(2, x.at(1, 0, 11), "of like ones that told last");
        due(4, x.at(1, 0, 13), "it is over");
        due(NONE, x.lead(5, 0, 1, 0), "no such spot");
        due(NONE, x.lead(-1, 1, 0, 0), "no such spot");
        due(NONE, x.lead(0, 0, 0, 0), "pull");
        due(NONE, x.lead(0, 10, 0, 0), "pull");
        due(NONE, x.lead(0, 1, 3, 2), "seconds");
        for (int i = 3; i < 12; i++) {
            due(i, x.lead(0, 9, 99, 99), "lead");
        }
        due(NONE, x.lead(0, 9, 99, 99), "no room");
        due(NONE, x.lead(0, 0, 99, 99), "of several the least");
        refusals(2, 4, 1, 0, 0);
        due(12, x.count(1), "count(1)");
    }

    private static void hold() {
        begin(7, 4);
        due(1, x.hold(2, 1, 7, 10, 12), "hold");
        due(1, x.at(3, 2, 10), "seems");
        due(7, x.at(4, 2, 12), "truly");
        due(NONE, x.at(3, 2, 9), "seems");
        due(NONE, x.at(4, 2, 13), "truly");
        due(0, x.at(2, 2, 10), "what holds isn't free");
        due(0, x.at(2, 7, 10), "what is held isn't free");
        due(1, x.at(2, 1, 10), "what seems held is free");
        due(1, x.hold(2, NONE, NONE, 11, 11), "it holds none");
        due(NONE, x.at(3, 2, 11), "seems");
        due(NONE, x.at(4, 2, 11), "truly");
        due(7, x.at(4, 2, 12), "truly");
        due(1, x.hold(0, 7, 2, 0, 0), "the ring's ends are neighbours");
        refusals(0, 0, 0, 0, 0);
        due(0, x.hold(8, 0, 0, 0, 0), "no such hand");
        due(0, x.hold(-1, 0, 0, 0, 0), "no such hand");
        due(0, x.hold(0, 8, 2, 0, 0), "no such hand");
        due(0, x.hold(0, 2, 8, 0, 0), "no such hand");
        due(0, x.hold(0, -2, -2, 0, 0), "no such hand");
        due(0, x.hold(0, NONE, 2, 0, 0), "just one is NONE");
        due(0, x.hold(0, 2, NONE, 1, 0), "just one is NONE");
        refusals(7, 0, 0, 0, 0);
        due(0, x.hold(0, 4, 1, 1, 0), "seconds");
        due(0, x.hold(0, NONE, NONE, 0, 100), "seconds");
        refusals(7, 2, 0, 0, 0);
        due(0, x.hold(0, 4, 2, 0, 0), "seems of no neighbour");
        due(0, x.hold(0, 1, 2, 0, 0), "seems its own");
        due(0, x.hold(0, 2, 1, 0, 0), "truly its own");
        refusals(7, 2, 0, 0, 3);
        due(2, x.at(4, 0, 0), "a refusal changes nothing");
    }

    private static void thing() {
        begin(8, 3);
        due(NONE, x.thing(4), "no such spot");
        due(NONE, x.thing(-1), "no such spot");
        refusals(2, 0, 0, 0, 0);
        due(0, x.thing(3), "thing in the middle");
        due(1, x.thing(0), "thing");
        due(3, x.where(0, NONE), "where");
        due(0, x.where(1, 99), "where");
        due(0, x.move(0, 0, 0, 0), "move");
        due(NONE, x.thing(1), "there are moves");
        due(NONE, x.thing(9), "of several the least");
        refusals(3, 0, 0, 0, 1);
        x.room(3);
        for (int i = 0; i < 8; i++) {
            due(i, x.thing(i % 4), "thing");
        }
        due(NONE, x.thing(0), "no room");
        x.move(0, 0, 1, 0);
        due(NONE, x.thing(0), "of several the least");
        refusals(3, 0, 2, 0, 1);
    }

    private static void move() {
        begin(9, 5);
        x.thing(1);
        due(0, x.move(2, 0, 5, 10), "move");
        due(NONE, x.move(0, 0, 4, 9), "the only move is in a later second");
        due(1, x.status(5), "status(5)");
        due(1, x.move(0, 0, 4, 10), "in the same second");
        due(4, x.where(0, 10), "where");
        due(NONE, x.move(10, 0, 5, 20), "no such hand");
        due(NONE, x.move(0, 1, 5, 20), "no such thing");
        due(NONE, x.move(0, 0, 6, 20), "no such spot");
        due(NONE, x.move(0, -1, 5, 100), "of several the least");
        refusals(4, 0, 0, 0, 1);
        due(NONE, x.move(0, 0, 5, 100), "no such second");
        due(NONE, x.move(0, 0, 5, -1), "no such second");
        refusals(4, 2, 0, 0, 1);
        due(NONE, x.move(0, 0, 4, 20), "it lies there");
        due(NONE, x.move(0, 0, 5, 9), "a move is in a later second");
        due(NONE, x.move(0, 0, 2, 20), "doesn't reach where it goes");
        due(NONE, x.move(4, 0, 3, 20), "doesn't reach where it lies");
        x.hold(0, 2, 2, 20, 20);
        due(NONE, x.move(0, 0, 5, 20), "the hand holds one");
        x.hold(3, 1, 1, 20, 20);
        due(NONE, x.move(1, 0, 5, 20), "the hand is held");
        refusals(4, 2, 0, 0, 7);
        x.hold(3, 1, 5, 20, 20);
        due(2, x.move(1, 0, 5, 20), "it only seems held");
        for (int i = 3; i < 40; i++) {
            due(i, x.move(9, 0, i % 2 == 0 ? 5 : 0, 99), "move");
        }
        due(NONE, x.move(9, 0, 0, 99), "no room");
        due(NONE, x.move(9, 0, 0, 0), "of several the least");
        due(NONE, x.move(9, 0, 0, 100), "of several the least");
        refusals(4, 3, 2, 0, 7);
        due(40, x.count(3), "count(3)");
    }

    private static void where() {
        begin(10, 3);
        x.thing(1);
        x.thing(2);
        x.move(0, 0, 3, 5);
        x.move(0, 0, 2, 5);
        x.move(0, 1, 0, 6);
        due(1, x.where(0, NONE), "at first");
        due(1, x.where(0, 4), "where");
        due(2, x.where(0, 5), "where");
        due(2, x.where(0, 99), "where");
        due(2, x.where(1, 5), "where");
        due(0, x.where(1, 6), "where");
        due(NONE, x.where(2, 6), "no such thing");
        due(NONE, x.where(-1, 6), "no such thing");
        due(NONE, x.where(0, 100), "no such second");
        due(NONE, x.where(0, -2), "no such second");
        refusals(0, 0, 0, 0, 0);
    }

    private static void saw() {
        begin(11, 4);
        x.thing(0);
        x.attend(1, 0, 0, 99);
        x.attend(2, 4, 0, 99);
        x.attend(3, 3, 0, 99);
        x.attend(0, 0, 0, 99);
        x.move(0, 0, 4, 7);
        due(1, x.saw(0, 1), "the spot it came from");
        due(1, x.saw(0, 2), "the spot it came to");
        due(0, x.saw(0, 3), "another spot");
        due(NONE, x.saw(0, 0), "the hand is its own");
        due(NONE, x.saw(0, 4), "no such person");
        due(NONE, x.saw(0, -1), "no such person");
        due(NONE, x.saw(1, 1), "no such move");
        due(NONE, x.saw(-1, 1), "no such move");
        x.light(7, 7, 4);
        due(0, x.saw(0, 1), "by all as it is now");
        x.person(1, 4, 0);
        due(1, x.saw(0, 1), "by all as it is now");
        x.lead(3, 1, 7, 7);
        due(0, x.saw(0, 1), "by all as it is now");
        refusals(0, 0, 0, 0, 0);
    }

    private static void at() {
        begin(12, 3);
        x.light(5, 5, 2);
        due(2, x.at(0, MIN, 5), "which isn't asked");
        due(NONE, x.at(0, 0, -1), "no such second");
        due(NONE, x.at(0, 0, 100), "no such second");
        x.attend(2, 3, 5, 5);
        due(3, x.at(1, 2, 5), "eyes");
        due(NONE, x.at(1, 3, 5), "no such person");
        due(NONE, x.at(1, -1, 5), "no such person");
        x.hold(0, 3, 5, 5, 5);
        due(0, x.at(2, 0, 5), "free");
        due(0, x.at(2, 5, 5), "free");
        due(1, x.at(2, 3, 5), "free");
        due(NONE, x.at(2, 6, 5), "no such hand");
        due(3, x.at(3, 0, 5), "seems");
        due(NONE, x.at(3, 6, 5), "no such hand");
        due(5, x.at(4, 0, 5), "truly");
        due(NONE, x.at(4, -1, 5), "no such hand");
        x.lead(0, 1, 5, 5);
        due(1, x.at(5, 2, 5), "led");
        due(0, x.at(5, 2, 6), "led");
        due(NONE, x.at(5, 3, 5), "no such person");
        due(NONE, x.at(6, 0, 5), "another what");
        due(NONE, x.at(-1, 0, 5), "another what");
        // CONTROLS aren't in force here
        x.control(0, 3, 0, 0, 99, 1);
        x.control(1, 0, 9, 0, 99, 1);
        x.control(2, 2, 1, 0, 99, 1);
        due(1, x.at(2, 3, 5), "free");
        due(2, x.at(0, 0, 5), "light");
        due(0, x.at(1, 2, 5), "eyes");
        refusals(0, 0, 0, 0, 0);
    }

    private static void vouch() {
        begin(13, 5);
        x.hold(2, 0, 1, 3, 3);
        x.hold(3, 1, 1, 3, 3);
        x.hold(9, 0, 0, 3, 3);
        x.attend(3, 0, 3, 3);
        x.attend(0, 0, 3, 3);
        due(16 + 8, x.vouch(0, 3, true), "4 holds it, 3 sees it");
        due(2 + 16 + 8, x.vouch(0, 3, false), "1 says so, too");
        due(2 + 8, x.vouch(1, 3, true), "1 holds it with both hands");
        due(2 + 8, x.vouch(1, 3, false), "1 says so of both");
        due(0, x.vouch(0, 2, true), "another second");
        x.light(3, 3, 4);
        due(16, x.vouch(0, 3, true), "3 can't see");
        due(NONE, x.vouch(10, 3, true), "no such hand");
        due(NONE, x.vouch(-1, 3, true), "no such hand");
        due(NONE, x.vouch(0, 100, true), "no such second");
        due(NONE, x.vouch(0, -1, false), "no such second");
        refusals(0, 0, 0, 0, 0);
    }

    private static void gap() {
        begin(14, 3);
        x.attend(1, 0, 0, 49);
        x.attend(1, 0, 60, 79);
        x.hold(3, 1, 4, 50, 54);
        // GAPS of HAND 1: 50 to 59, 80 to 99; SEEMING ones: 55 to 59, 80 to 99
        due(30, x.gap(1, true, 0), "how many");
        due(50, x.gap(1, true, 1), "the first");
        due(20, x.gap(1, true, 2), "that follow one another");
        due(5, x.gap(1, true, 3), "in which somebody says so");
        due(25, x.gap(1, false, 0), "how many");
        due(55, x.gap(1, false, 1), "the first");
        due(20, x.gap(1, false, 2), "that follow one another");
        due(5, x.gap(1, false, 3), "GAPS in which somebody says so");
        due(0, x.gap(0, true, 3), "none");
        x.attend(1, 0, 0, 99);
        due(0, x.gap(0, true, 0), "none");
        due(NONE, x.gap(0, true, 1), "none");
        due(0, x.gap(0, true, 2), "none");
        due(100, x.gap(2, false, 2), "all");
        due(NONE, x.gap(6, true, 0), "no such hand");
        due(NONE, x.gap(-1, true, 0), "no such hand");
        due(NONE, x.gap(0, true, 4), "another what");
        due(NONE, x.gap(0, true, -1), "another what");
        refusals(0, 0, 0, 0, 0);
    }

    private static void image() {
        begin(15, 3);
        due(1, x.image(0), "image");
        due(1, x.image(2), "image");
        due(0, x.image(3), "no such image");
        due(0, x.image(-1), "no such image");
        refusals(2, 0, 0, 0, 0);
        x.light(0, 0, 1);
        due(1, x.image(0), "an image in place of another");
        x.light(0, 0, 2);
        due(1, x.restore(0), "restore");
        due(1, x.at(0, 0, 0), "light");
        due(1, x.restore(2), "restore");
        due(9, x.at(0, 0, 0), "light");
    }

    private static void restore() {
        begin(16, 4);
        x.person(0, 3, 4);
        x.light(0, 9, 3);
        x.attend(0, 1, 0, 99);
        x.lead(2, 4, 50, 59);
        x.hold(2, 4, 7, 0, 99);
        x.thing(0);
        x.thing(1);
        x.move(0, 0, 4, 10);
        due(1, x.image(1), "image");
        x.person(0, 9, 0);
        x.light(0, 99, 0);
        x.attend(0, 3, 0, 99);
        x.lead(3, 9, 0, 99);
        x.hold(2, NONE, NONE, 0, 99);
        x.move(0, 0, 0, 10);
        x.move(2, 1, 4, 11);
        x.report(0, 0, 1, 1, 0, 9, 0);
        x.control(1, 0, 1, 0, 1, 1);
        x.trial(2, 1);
        sound(1, "way a;memory 1 2;");
        due(0, x.restore(3), "no such image");
        due(0, x.restore(-1), "no such image");
        due(0, x.restore(0), "none was made");
        refusals(2, 0, 0, 0, 1);
        due(1, x.restore(1), "restore");
        due(3, x.at(0, 0, 9), "light");
        due(9, x.at(0, 0, 10), "light");
        due(1, x.at(1, 0, 0), "eyes");
        due(1, x.vouch(2, 0, true), "need 3");
        due(1, x.count(1), "leads");
        due(1, x.at(1, 0, 50), "firm 4");
        due(2, x.at(1, 1, 50), "the lead");
        due(7, x.at(4, 2, 99), "truly");
        due(4, x.at(3, 2, 0), "seems");
        due(2, x.count(2), "things");
        due(1, x.count(3), "moves");
        due(4, x.where(0, 99), "where");
        due(1, x.count(7), "reports stay");
        due(1, x.count(8), "controls stay");
        due(1, x.count(9), "trials stay");
        due(1, x.count(4), "ways stay");
        due(1, x.count(5), "loss stays");
        x.light(0, 99, 7);
        due(1, x.restore(1), "an image serves again");
        due(3, x.at(0, 0, 0), "light");
        x.room(4);
        due(0, x.restore(1), "none was made since room()");
        refusals(2, 0, 0, 0, 2);
    }

    private static void feed() {
        begin(17, 3);
        due(20, x.feed(0x77617920, 0x613B2020, 0x20202020, 0x20202020, 0x20202020), "feed");
        due(20, x.count(10), "count(10)");
        due(1, x.text(6), "the highest byte of each int first");
        due(0, x.count(10), "count(10)");
        for (int i = 1; i <= 20; i++) {
            due(20 * i, x.feed(0x20202020, 0x20202020, 0x20202020, 0x20202020, 0x2020200A), "feed");
        }
        due(NONE, x.feed(0, 0, 0, 0, 0), "it would have more than 400");
        due(400, x.count(10), "count(10)");
        refusals(0, 0, 0, 0, 0);
        due(0, x.text(400), "blanks alone");
        due(20, x.feed(-1, -1, -1, -1, -1), "feed");
        due(NONE, x.text(1), "byte 255");
        due(1, x.fault(0), "fault(0)");
        due(0, x.fault(1), "fault(1)");
        // behind one another, int by int
        x.feed(0x77617920, 0x61207761, 0x69742031, 0x20776169, 0x7420323B);
        due(40, x.feed(0x77617920, 0x623B2020, 0x20202020, 0x20202020, 0x20202020), "feed");
        due(2, x.text(40), "text");
        due(3, x.way(0, 1), "way a wait 1 wait 2");
    }

    private static void text() {
        begin(18, 3);
        due(0, x.text(0), "an empty text");
        due(NONE, x.text(1), "more than there is");
        due(NONE, x.text(-1), "below 0");
        refusals(0, 2, 0, 0, 0);
        put("way a;way b;");
        due(NONE, x.text(21), "more than there is");
        due(20, x.count(10), "the tape stays");
        due(1, x.text(6), "the first bytes alone");
        due(0, x.count(10), "the tape is empty then");
        sound(2, "way a wait 1;way b move left 20 ;memory 20 0;");
        due(20, x.count(5), "loss");
        due(0, x.count(6), "smooth");
        faulty(2, 0, "x");
        due(2, x.count(4), "a text with a fault changes nothing");
        due(20, x.count(5), "loss");
        sound(1, "memory 1 2;way zzzzzzzz;\n memory\n003 004;");
        due(3, x.count(5), "the last memory counts");
        due(4, x.count(6), "the last memory counts");
        sound(1, "way a;");
        due(0, x.count(5), "without memory");
        due(0, x.count(6), "without memory");
        sound(1, "way a free left move right 1 wait 20 dark 0 away swap right call 9 ready left 20;");
        sound(1, "way waits free left;");
        sound(8, "way a;way b;way c;way d;way e;way f;way g;way h;memory 0 0;memory 1 1;");
        sound(1, "way a wait 020wait 1away away;");
        due(4, x.way(0, 0), "tokens go on as long as they can");
        due(21, x.way(0, 1), "tokens go on as long as they can");
        sound(0, "");
        due(0, x.count(4), "an empty text is in place of the one ahead");
    }

    private static void textFaults() {
        begin(18, 3);
        faulty(1, 0, "#");
        faulty(1, 4, "way A;");
        faulty(1, 5, "way a\t;");
        faulty(1, 4, "way abcdefghi;");
        faulty(1, 0, "abcdefghi");
        faulty(1, 11, "way a wait 1000;");
        faulty(1, 7, "memory 0000 0;");
        faulty(1, 11, "way a wait \u00e9;");
        faulty(1, 11, "way a free leftright;");
        faulty(2, 0, "free left;");
        faulty(2, 0, ";");
        faulty(2, 0, "12;");
        faulty(2, 6, "way a;;");
        faulty(2, 3, "way");
        faulty(2, 5, "way  ");
        for (String word : new String[] {"way", "memory", "free", "move", "wait", "dark", "away", "swap", "call", "ready",
            "left", "right"}) {
            faulty(2, 4, "way " + word + ";");
        }
        begin(18, 3);
        faulty(2, 4, "way 1;");
        faulty(2, 6, "way a left;");
        faulty(2, 6, "way a b;");
        faulty(2, 6, "way a way b;");
        faulty(2, 6, "way a 1;");
        faulty(2, 5, "way a1;");
        faulty(2, 6, "way a memory 1 1;");
        faulty(2, 10, "way a free;");
        faulty(2, 11, "way a free 1;");
        faulty(2, 15, "way a move left;");
        faulty(2, 16, "way a move left left;");
        faulty(2, 11, "way a wait left;");
        faulty(2, 11, "way a away 1;");
        faulty(2, 8, "memory 1;");
        faulty(2, 7, "memory a 1;");
        faulty(2, 10, "memory 1 1");
        faulty(2, 11, "memory 1 1 1;");
        faulty(2, 13, "memory 1 1   ");
        begin(18, 3);
        faulty(3, 11, "way a wait 0;");
        faulty(3, 11, "way a wait 21;");
        faulty(3, 16, "way a move left 0;");
        faulty(3, 17, "way a move right 21;");
        faulty(3, 17, "way a ready left 0;");
        faulty(3, 17, "way a ready left 999;");
        faulty(3, 11, "way a dark 10;");
        faulty(3, 11, "way a call 0;");
        faulty(3, 11, "way a call 10;");
        faulty(3, 7, "memory 21 0;");
        faulty(3, 9, "memory 0 21;");
        faulty(4, 10, "way a;way a;");
        faulty(4, 17, "way a;way ab;way a #;");
        String eight = "way a;way b;way c;way d;way e;way f;way g;way h;";
        faulty(5, 48, eight + "way i;");
        faulty(5, 48, eight + "way");
        faulty(5, 60, eight + "memory 0 0; way a;");
        String steps = "way a away away away away away away away away";
        faulty(5, 46, steps + " away;");
        faulty(5, 46, steps + " wait 99;");
        faulty(2, 46, steps + " left;");
        faulty(1, 46, steps + " leftleftleft;");
        sound(1, steps + ";");
        // TEXTS that fill THE TAPE to its last byte
        faulty(2, 400, blanks(390) + "way a wait");
        faulty(2, 400, blanks(388) + "way a wait 1");
        faulty(1, 396, blanks(396) + "1000");
        faulty(2, 397, blanks(397) + "100");
        faulty(1, 391, blanks(391) + "abcdefghi");
        sound(1, blanks(394) + "way a;");
        faulty(2, 6, "way a x #");
        faulty(3, 11, "way a wait 0 #");
    }

    private static String blanks(int n) {
        return " ".repeat(n);
    }

    private static void fault() {
        begin(19, 3);
        due(0, x.fault(0), "at first");
        due(NONE, x.fault(1), "at first");
        faulty(2, 2, "  x");
        due(NONE, x.fault(2), "another what");
        due(NONE, x.fault(-1), "another what");
        due(NONE, x.text(1), "that read none");
        due(2, x.fault(0), "of the latest that read bytes");
        due(2, x.fault(1), "of the latest that read bytes");
        sound(1, "way a;");
        due(NONE, x.fault(2), "another what");
    }

    private static void way() {
        begin(20, 3);
        due(NONE, x.way(0, 0), "none such");
        sound(2, "way a free left wait 20 move left 7 ready right 9 dark 5 call 4;way b;");
        due(6, x.way(0, 0), "steps");
        due(27, x.way(0, 1), "seconds");
        due(0, x.way(1, 0), "steps");
        due(0, x.way(1, 1), "seconds");
        due(NONE, x.way(0, 2), "another what");
        due(NONE, x.way(0, -1), "another what");
        due(NONE, x.way(2, 0), "none such");
        due(NONE, x.way(-1, 0), "none such");
        refusals(0, 0, 0, 0, 0);
    }

    private static void fits() {
        begin(21, 5);
        sound(3, "way a wait 3;way b;way c wait 20 wait 20 wait 20 wait 20 wait 20;");
        x.thing(1);
        due(4, x.fits(0, 0, 0, 0, 5, 4, 6), "from 4 to 6");
        due(NONE, x.fits(0, 0, 0, 0, 5, 4, 5), "its last one is above b");
        due(97, x.fits(0, 0, 0, 0, 5, 97, 99), "up to 99");
        due(NONE, x.fits(0, 0, 0, 0, 5, 98, 99), "behind 99");
        due(99, x.fits(1, 0, 0, 0, 5, 99, 99), "no time goes by");
        due(0, x.fits(2, 0, 0, 0, 5, 0, 99), "all seconds");
        due(NONE, x.fits(2, 0, 0, 0, 5, 1, 99), "all but one");
        due(NONE, x.fits(0, 0, 0, 0, 1, 0, 99), "it lies there");
        due(NONE, x.fits(0, 0, 0, 0, 2, 0, 99), "doesn't reach where it goes");
        due(NONE, x.fits(0, 3, 0, 0, 3, 0, 99), "doesn't reach where it lies");
        due(0, x.fits(0, 2, 0, 0, 3, 0, 99), "reaches both");
        x.move(0, 0, 4, 10);
        due(11, x.fits(0, 0, 0, 0, 1, 0, 99), "it lies there up to second 10");
        due(0, x.fits(0, 0, 0, 0, 4, 0, 99), "as the way begins");
        due(10, x.fits(0, 0, 0, 0, 4, 10, 99), "moves ahead of that second alone");
        due(NONE, x.fits(0, 0, 0, 0, 4, 11, 99), "it lies there");
        due(NONE, x.fits(0, 3, 0, 0, 5, 0, 12), "3 reaches it behind second 10");
        due(11, x.fits(0, 3, 0, 0, 5, 0, 13), "3 reaches it behind second 10");
        due(NONE, x.fits(3, 0, 0, 0, 5, 0, 9), "no such way");
        due(NONE, x.fits(-1, 0, 0, 0, 5, 0, 9), "no such way");
        due(NONE, x.fits(0, 5, 0, 0, 5, 0, 9), "no such person");
        due(NONE, x.fits(0, -1, 0, 0, 5, 0, 9), "no such person");
        due(NONE, x.fits(0, 0, -1, 0, 5, 0, 9), "no such friends");
        due(NONE, x.fits(0, 0, 32, 0, 5, 0, 9), "no such friends");
        due(0, x.fits(0, 0, 31, 0, 5, 0, 9), "all are friends");
        due(NONE, x.fits(0, 0, 0, 1, 5, 0, 9), "no such thing");
        due(NONE, x.fits(0, 0, 0, 0, 6, 0, 9), "no such spot");
        due(NONE, x.fits(0, 0, 0, 0, 5, 9, 8), "no such seconds");
        due(NONE, x.fits(0, 0, 0, 0, 5, 0, 100), "no such seconds");
        refusals(0, 0, 0, 0, 0);
    }

    private static void fitsFree() {
        begin(21, 3);
        sound(4, "way a wait 2 free left wait 3;way b wait 2 free left;way c free right;way d free left wait 1;");
        x.thing(0);
        x.hold(2, 1, 0, 10, 10);
        // a begins at t and needs HAND 0 FREE from t + 2 to t + 4
        due(5, x.fits(0, 0, 0, 0, 3, 5, 99), "up to the last one");
        due(9, x.fits(0, 0, 0, 0, 3, 6, 99), "10 is behind or ahead");
        // b asks for the second behind its last one alone
        due(9, x.fits(1, 0, 0, 0, 3, 8, 99), "in this alone");
        due(7, x.fits(1, 0, 0, 0, 3, 7, 99), "in this alone");
        due(NONE, x.fits(1, 0, 0, 0, 3, 98, 99), "second 100 is none");
        due(97, x.fits(1, 0, 0, 0, 3, 97, 99), "second 99 is one");
        due(10, x.fits(2, 0, 0, 0, 3, 10, 10), "the right one is free");
        x.hold(1, 2, 3, 10, 10);
        due(NONE, x.fits(2, 0, 0, 0, 3, 10, 10), "it holds one");
        due(NONE, x.fits(3, 0, 2, 0, 3, 10, 10), "a friend holds it, too");
        x.hold(2, 0, 4, 10, 10);
        due(10, x.fits(3, 0, 0, 0, 3, 10, 10), "it only seems held");
    }

    private static void fitsDarkAndAway() {
        begin(21, 3);
        sound(4, "way a dark 4;way b wait 5 dark 4;way c away;way d wait 2 away;");
        x.thing(0);
        x.light(20, 25, 4);
        x.light(21, 21, 5);
        due(20, x.fits(0, 0, 0, 0, 3, 0, 99), "4 or less");
        due(22, x.fits(0, 0, 0, 0, 3, 21, 99), "5 is more");
        due(15, x.fits(1, 0, 0, 0, 3, 0, 99), "when it has come to that");
        x.light(99, 99, 0);
        due(94, x.fits(1, 0, 0, 0, 3, 60, 99), "second 99");
        due(NONE, x.fits(1, 0, 0, 0, 3, 95, 99), "second 100 is none");
        x.attend(1, 0, 0, 50);
        x.light(0, 99, 0);
        due(51, x.fits(2, 0, 0, 0, 3, 0, 99), "eyes count in the dark");
        due(0, x.fits(2, 0, 2, 0, 3, 0, 99), "a friend may look");
        due(0, x.fits(2, 1, 0, 0, 3, 0, 99), "another spot");
        due(49, x.fits(3, 0, 0, 0, 3, 0, 99), "when it has come to that");
        due(NONE, x.fits(3, 0, 0, 0, 3, 98, 99), "second 100 is none");
        x.attend(0, 0, 0, 99);
        due(51, x.fits(2, 0, 0, 0, 3, 0, 99), "p may look");
    }

    private static void fitsSwap() {
        begin(21, 3);
        sound(7, "way a swap left free left;way b free left swap left;way c swap left swap right;"
                + "way d swap left move left 2;way e move left 1 swap left;way f swap left swap left free left;"
                + "way g swap left free right;");
        x.thing(0);
        due(NONE, x.fits(0, 0, 0, 0, 3, 0, 99), "the other hand isn't held");
        x.hold(2, 1, 1, 0, 99);
        due(0, x.fits(0, 0, 0, 0, 3, 0, 99), "the other hand is held");
        x.hold(4, 0, 0, 0, 99);
        due(0, x.fits(0, 0, 0, 0, 3, 0, 99), "who holds it doesn't count");
        due(NONE, x.fits(1, 0, 0, 0, 3, 0, 99), "from this step on");
        due(NONE, x.fits(2, 0, 0, 0, 3, 0, 99), "the left one isn't held any more");
        due(0, x.fits(5, 0, 0, 0, 3, 0, 99), "again the same side");
        due(0, x.fits(3, 0, 0, 0, 3, 0, 99), "not vouched for by that");
        due(NONE, x.fits(4, 0, 0, 0, 3, 0, 99), "vouched for ahead of it");
        due(NONE, x.fits(6, 0, 0, 0, 3, 0, 99), "the other side stays held");
        x.attend(1, 0, 0, 9);
        due(10, x.fits(0, 0, 0, 0, 3, 0, 99), "nobody sees the spot");
        due(0, x.fits(0, 0, 2, 0, 3, 0, 99), "but a friend");
        x.light(5, 5, 4);
        due(5, x.fits(0, 0, 0, 0, 3, 0, 99), "who can't see doesn't count");
        x.light(5, 5, 9);
        x.hold(0, 2, 2, 11, 99);
        due(10, x.fits(0, 0, 0, 0, 3, 0, 99), "it holds none");
        due(NONE, x.fits(0, 0, 0, 0, 3, 11, 99), "it holds one itself");
        x.hold(4, NONE, NONE, 0, 99);
        due(NONE, x.fits(3, 0, 0, 0, 3, 0, 9), "seen all the same");
        // HAND 0 isn't held, and swap right wants that
        due(1, write("way a swap right;"), "text");
        due(NONE, x.fits(0, 0, 0, 0, 3, 0, 99), "the left hand isn't held");
        due(1, write("way a wait 1 swap left;"), "text");
        due(NONE, x.fits(0, 0, 0, 0, 3, 99, 99), "second 100 is none");
        due(98, x.fits(0, 0, 0, 0, 3, 98, 99), "second 99 is one");
    }

    private static void fitsCall() {
        begin(21, 4);
        sound(6, "way a call 3 away;way b away call 3;way c call 5 call 2 away;way d call 9 move left 1;"
                + "way e wait 1 call 1;way f call 3 wait 2 move left 1;");
        x.thing(0);
        x.attend(1, 0, 0, 99);
        x.person(1, 5, 2);
        due(0, x.fits(0, 0, 0, 0, 1, 0, 99), "firm 2 is below 3");
        due(NONE, x.fits(1, 0, 0, 0, 1, 0, 99), "from this step on");
        x.person(1, 5, 3);
        due(NONE, x.fits(0, 0, 0, 0, 1, 0, 99), "firm 3 isn't below 3");
        due(0, x.fits(2, 0, 0, 0, 1, 0, 99), "the greatest of several");
        due(0, x.fits(3, 0, 0, 0, 1, 0, 99), "seen by nobody");
        due(NONE, x.fits(3, 0, 0, 0, 4, 0, 99), "all eyes are at the middle");
        due(0, x.fits(3, 0, 14, 0, 4, 0, 99), "of friends alone");
        x.light(7, 7, 4);
        due(7, x.fits(3, 0, 0, 0, 4, 0, 99), "nobody can see");
        due(98, x.fits(4, 0, 0, 0, 1, 98, 98), "no second is asked for");
        due(99, x.fits(4, 0, 0, 0, 1, 99, 99), "no second is asked for");
        x.person(1, 5, 0);
        x.lead(0, 9, 0, 99);
        due(0, x.fits(5, 0, 0, 0, 1, 0, 99), "a call goes ahead of leads");
        // a control of eyes goes ahead of a call
        x.control(2, 1, 0, 0, 49, 1);
        x.control(2, 2, 1, 0, 49, 1);
        due(0, x.closes(0, 0, 1, 0, 10), "without");
        due(1, write("way d call 9 move left 1;"), "text");
        due(0, x.closes(1, 0, 1, 10, 40), "1 itself does it");
        due(1, x.closes(3, 0, 1, 10, 40), "with both controls");
        due(0, x.closes(3, 0, 1, 40, 50), "behind both");
        // p's own eyes stay
        begin(21, 3);
        sound(1, "way a call 9 dark 0;");
        x.thing(0);
        x.light(4, 4, 0);
        due(4, x.fits(0, 0, 0, 0, 1, 0, 9), "a call takes no time");
    }

    private static void fitsReady() {
        begin(21, 3);
        sound(3, "way a ready left 3;way b wait 5 ready left 1;way c swap left call 9 ready left 2;");
        x.thing(0);
        due(NONE, x.fits(0, 0, 0, 0, 3, 0, 0), "no second is ahead of 0");
        due(1, x.fits(0, 0, 0, 0, 3, 0, 9), "second 0 is");
        x.hold(2, 0, 0, 0, 49);
        // HAND 0 is FREE from 50 on: the way may begin with 51
        due(51, x.fits(0, 0, 0, 0, 3, 0, 99), "free ahead of the first");
        due(51, x.fits(1, 0, 0, 0, 3, 0, 99), "ahead of the way's first one");
        x.hold(2, 0, 0, 52, 99);
        // FREE in 50 and 51
        due(54, x.fits(0, 0, 0, 0, 3, 54, 99), "51 is the third ahead of 54");
        due(NONE, x.fits(0, 0, 0, 0, 3, 55, 99), "51 is the fourth ahead of 55");
        x.attend(1, 0, 53, 53);
        due(NONE, x.fits(0, 0, 0, 0, 3, 54, 99), "seen in 53");
        due(54, x.fits(0, 0, 2, 0, 3, 54, 99), "by a friend");
        due(53, x.fits(0, 0, 0, 0, 3, 53, 99), "53 isn't ahead of 53");
        x.attend(1, 3, 53, 53);
        due(54, x.fits(0, 0, 0, 0, 3, 54, 99), "the other spot may be seen");
        x.attend(1, 0, 50, 51);
        due(NONE, x.fits(0, 0, 0, 0, 3, 0, 99), "seen in both");
        x.attend(1, 0, 51, 51);
        x.attend(1, NONE, 50, 50);
        due(51, x.fits(0, 0, 0, 0, 3, 0, 99), "free in 50");
        due(NONE, x.fits(0, 0, 0, 0, 3, 52, 99), "free in 50, seen in 51");
        // the spot at which it lies as the way begins
        x.attend(1, NONE, 0, 99);
        x.attend(1, 2, 51, 51);
        x.move(1, 0, 2, 51);
        due(NONE, x.fits(0, 0, 0, 0, 0, 52, 52), "it lies at 2 as the way begins");
        due(51, x.fits(0, 0, 0, 0, 2, 51, 51), "it lies at 0 as the way begins");
        // swap and call aside
        x.hold(4, 1, 1, 0, 99);
        due(NONE, x.fits(2, 0, 0, 0, 3, 10, 20), "held all the same");
        x.attend(1, 0, 0, 99);
        x.hold(2, NONE, NONE, 0, 99);
        due(10, x.fits(2, 0, 2, 0, 3, 10, 20), "with a friend");
        x.attend(1, 0, 0, 9);
        x.attend(1, NONE, 10, 99);
        due(11, x.fits(2, 0, 0, 0, 3, 10, 20), "seen in 9, and a call doesn't help");
    }

    private static void fitsMove() {
        begin(21, 5);
        sound(2, "way a move left 3;way b wait 2 move right 1;");
        x.thing(0);
        due(0, x.fits(0, 0, 0, 0, 5, 0, 99), "nobody vouches");
        x.hold(2, 0, 0, 2, 2);
        due(3, x.fits(0, 0, 0, 0, 5, 0, 99), "held in 2");
        due(0, x.fits(0, 0, 2, 0, 5, 0, 99), "held by a friend");
        x.attend(2, 0, 6, 6);
        due(7, x.fits(0, 0, 0, 0, 5, 4, 99), "seen where it lies in 6");
        x.attend(2, 5, 10, 10);
        due(11, x.fits(0, 0, 0, 0, 5, 8, 99), "seen where it goes in 10");
        due(8, x.fits(0, 0, 0, 0, 4, 8, 99), "another spot is seen");
        x.attend(2, 0, 13, 13);
        x.move(1, 0, 1, 12);
        due(14, x.fits(0, 0, 0, 0, 5, 11, 99), "the spot ahead of p is seen in 13");
        x.attend(2, 1, 20, 20);
        due(21, x.fits(0, 0, 0, 0, 5, 18, 99), "it lies at 1 by now");
        due(0, x.fits(1, 0, 0, 0, 5, 0, 99), "the right one isn't held in 2");
        x.light(20, 20, 4);
        due(18, x.fits(0, 0, 0, 0, 5, 18, 99), "in the dark");
        x.hold(0, 2, 2, 30, 40);
        due(32, x.fits(0, 0, 0, 0, 5, 32, 99), "a move asks for no free hand");
        x.attend(0, 5, 0, 99);
        due(32, x.fits(0, 0, 0, 0, 5, 32, 99), "p may see it");
        due(97, x.fits(0, 0, 0, 0, 5, 97, 99), "up to 99");
        due(NONE, x.fits(1, 0, 0, 0, 5, 98, 99), "behind 99");
        // a MOVE within the WAY doesn't change where it lay as the WAY began
        x.move(3, 0, 0, 50);
        x.attend(2, 1, 51, 51);
        due(51, x.fits(0, 0, 0, 0, 5, 49, 99), "at 1 for a way from 49 or 50, at 0 from 51 on");
    }

    private static void report() {
        begin(22, 4);
        x.thing(0);
        due(0, x.report(0, 0, 0, 4, 0, 99, 0), "report");
        due(1, x.report(0, 1, 2, MIN, 5, 5, 30), "spot isn't asked");
        due(NONE, x.report(4, 0, 0, 4, 0, 1, 0), "no such person");
        due(NONE, x.report(-1, 0, 0, 4, 0, 1, 0), "no such person");
        due(NONE, x.report(0, 2, 0, 4, 0, 1, 0), "no such kind");
        due(NONE, x.report(0, -1, 0, 4, 0, 1, 0), "no such kind");
        due(NONE, x.report(0, 0, 1, 4, 0, 1, 0), "no such thing");
        due(NONE, x.report(0, 0, 0, 5, 0, 1, 0), "no such spot");
        due(NONE, x.report(0, 0, 0, NONE, 0, 1, 0), "no such spot");
        due(NONE, x.report(0, 1, 8, 0, 0, 1, 0), "no such hand");
        due(NONE, x.report(0, 1, 1, 0, 0, 1, 0), "its own hand");
        due(NONE, x.report(0, 1, 1, 0, 2, 1, 31), "of several the least");
        refusals(10, 0, 0, 0, 0);
        due(NONE, x.report(0, 0, 0, 4, 2, 1, 0), "seconds");
        due(NONE, x.report(0, 0, 0, 4, 0, 100, 0), "seconds");
        due(NONE, x.report(0, 0, 0, 4, 0, 1, 31), "day");
        due(NONE, x.report(0, 0, 0, 4, 0, 1, -1), "day");
        refusals(10, 4, 0, 0, 0);
        for (int i = 2; i < 30; i++) {
            due(i, x.report(1, 0, 0, 4, 0, 99, 0), "report");
        }
        due(NONE, x.report(1, 0, 0, 4, 0, 99, 0), "no room");
        refusals(10, 4, 1, 0, 0);
        due(30, x.count(7), "count(7)");
    }

    private static void right() {
        begin(23, 4);
        x.thing(0);
        x.move(0, 0, 4, 10);
        x.report(1, 0, 0, 4, 10, 10, 0);
        x.report(1, 0, 0, 4, 0, 9, 9);
        x.report(1, 0, 0, 4, 11, 99, 0);
        x.report(1, 0, 0, 0, 0, 99, 0);
        x.report(0, 0, 0, 4, 0, 99, 0);
        due(1, x.right(0), "there is such a move");
        due(0, x.right(1), "ahead of it");
        due(0, x.right(2), "behind it");
        due(0, x.right(3), "to another spot");
        due(1, x.right(4), "its own move");
        x.hold(2, 1, 0, 20, 24);
        x.hold(3, 0, 1, 20, 20);
        x.report(1, 1, 0, 0, 20, 24, 0);
        x.report(1, 1, 0, 0, 20, 25, 30);
        x.report(1, 1, 1, 0, 20, 20, 0);
        x.report(1, 1, 1, 0, 20, 21, 0);
        due(1, x.right(5), "truly held");
        due(0, x.right(6), "not in all");
        due(1, x.right(7), "with the right one");
        due(0, x.right(8), "it only seemed so in 21");
        due(NONE, x.right(9), "none such");
        due(NONE, x.right(-1), "none such");
        refusals(0, 0, 0, 0, 0);
    }

    private static void honest() {
        begin(24, 4);
        sound(0, "memory 2 3;");
        x.thing(0);
        x.attend(1, 4, 0, 99);
        x.move(0, 0, 4, 10);
        x.report(1, 0, 0, 4, 10, 10, 0);
        x.report(1, 0, 0, 4, 11, 20, 0);
        x.report(1, 0, 0, 4, 12, 20, 1);
        x.report(1, 0, 0, 4, 13, 20, 1);
        x.report(1, 0, 0, 4, 0, 8, 1);
        x.report(1, 0, 0, 4, 0, 7, 1);
        x.report(0, 0, 0, 4, 10, 10, 0);
        x.report(2, 0, 0, 4, 10, 10, 0);
        x.report(1, 0, 0, 1, 10, 10, 30);
        due(1, x.honest(0), "it saw it");
        due(0, x.honest(1), "a second late on the day");
        due(1, x.honest(2), "two seconds late a day on");
        due(0, x.honest(3), "three seconds late a day on");
        due(1, x.honest(4), "two seconds early a day on");
        due(0, x.honest(5), "three seconds early a day on");
        due(0, x.honest(6), "its own move it didn't see");
        due(0, x.honest(7), "it looks nowhere");
        due(0, x.honest(8), "another spot");
        x.hold(2, 1, 4, 20, 24);
        x.hold(3, 1, 4, 28, 30);
        x.report(1, 1, 1, 0, 20, 24, 0);
        x.report(1, 1, 1, 0, 20, 28, 0);
        x.report(1, 1, 1, 0, 17, 33, 1);
        x.report(1, 1, 1, 0, 16, 33, 1);
        x.report(1, 1, 1, 0, 14, 36, 2);
        x.report(1, 1, 1, 0, 14, 37, 2);
        due(1, x.honest(9), "it seemed so");
        due(0, x.honest(10), "not in all, on the day");
        due(1, x.honest(11), "three that follow one another, a day on");
        due(0, x.honest(12), "four that follow one another, a day on");
        due(1, x.honest(13), "six, two days on");
        due(0, x.honest(14), "seven, two days on");
        due(NONE, x.honest(15), "none such");
        due(NONE, x.honest(-1), "none such");
        sound(0, "");
        due(0, x.honest(2), "memory as it is now");
        refusals(0, 0, 0, 0, 0);
    }

    private static void agree() {
        begin(25, 4);
        x.thing(0);
        x.thing(0);
        x.report(0, 0, 0, 4, 10, 20, 0);
        x.report(1, 0, 0, 4, 20, 30, 9);
        x.report(1, 0, 0, 4, 21, 30, 0);
        x.report(1, 0, 0, 1, 10, 20, 0);
        x.report(1, 0, 1, 4, 10, 20, 0);
        x.report(0, 1, 4, 0, 0, 1, 0);
        x.report(1, 1, 4, 1, 50, 60, 0);
        x.report(1, 1, 5, 1, 50, 60, 0);
        x.report(1, 1, 0, 4, 10, 20, 0);
        due(1, x.agree(0, 1), "second 20 is in both");
        due(1, x.agree(1, 0), "second 20 is in both");
        due(0, x.agree(0, 2), "no second is in both");
        due(0, x.agree(2, 0), "no second is in both");
        due(0, x.agree(0, 3), "another spot");
        due(0, x.agree(0, 4), "another thing");
        due(1, x.agree(5, 6), "of one hand");
        due(0, x.agree(6, 7), "another hand");
        due(0, x.agree(0, 8), "another kind");
        due(NONE, x.agree(3, 3), "both are one");
        due(NONE, x.agree(0, 9), "none such");
        due(NONE, x.agree(-1, 0), "none such");
        refusals(0, 0, 0, 0, 0);
    }

    private static void stories() {
        begin(26, 5);
        sound(2, "way a move left 1;way b free left move left 2;");
        x.thing(0);
        x.report(3, 0, 0, 5, 10, 11, 0);
        x.report(3, 1, 0, 0, 10, 11, 0);
        // 0, 1 and 4 reach both spots
        due(6, x.stories(0, false, 0), "how many");
        due(1 + 2 + 16, x.stories(0, false, 1), "persons");
        due(3, x.stories(0, false, 2), "ways");
        x.attend(2, 5, 11, 11);
        due(3, x.stories(0, false, 0), "a fits in 10");
        due(1, x.stories(0, false, 2), "a fits in 10");
        due(6, x.stories(0, true, 0), "with 2 as a friend");
        due(1 + 2 + 16, x.stories(0, true, 1), "with 2 as a friend");
        due(3, x.stories(0, true, 2), "with 2 as a friend");
        x.attend(3, 0, 11, 11);
        due(3, x.stories(0, true, 0), "two watch now");
        x.hold(2, 0, 0, 10, 10);
        // HAND 0 is held by 1, so a is left to 1 and 4
        due(2, x.stories(0, false, 0), "held by 1");
        due(2 + 16, x.stories(0, false, 1), "held by 1");
        due(3, x.stories(0, true, 0), "with 1 as a friend");
        due(NONE, x.stories(0, false, 3), "another what");
        due(NONE, x.stories(0, false, -1), "another what");
        due(NONE, x.stories(1, false, 0), "no report (0)");
        due(NONE, x.stories(2, false, 0), "none such");
        due(NONE, x.stories(-1, false, 0), "none such");
        refusals(0, 0, 0, 0, 0);
    }

    private static void least() {
        begin(27, 5);
        x.thing(0);
        x.report(3, 0, 0, 5, 10, 12, 0);
        x.report(3, 1, 0, 0, 10, 12, 0);
        due(0, x.least(0, 0), "nobody vouches");
        due(10, x.least(0, 1), "nobody vouches");
        due(0, x.least(0, 2), "nobody vouches");
        // HANDS 0 to 3, 8 and 9 reach both
        x.attend(2, 0, 10, 12);
        x.attend(3, 0, 10, 12);
        x.attend(4, 1, 10, 12);
        x.attend(0, 4, 10, 12);
        // 10: 0 and 1 by two (2, 3), 2 and 3 by one (4), 8 and 9 by one (0)
        due(2, x.least(0, 0), "the earliest second, then the least hand");
        due(10, x.least(0, 1), "the earliest second, then the least hand");
        due(1, x.least(0, 2), "the earliest second, then the least hand");
        x.hold(0, 2, 2, 10, 12);
        x.hold(9, 0, 3, 10, 10);
        // 10: HAND 2 by 4 and 0, HAND 3 by 4 alone, who sees it and holds it
        due(3, x.least(0, 0), "once each");
        x.hold(1, 2, 3, 10, 10);
        // 10: HAND 3 by 4 and 0, HANDS 8 and 9 by 0
        due(8, x.least(0, 0), "hand 8");
        due(10, x.least(0, 1), "second 10");
        x.attend(0, 0, 12, 12);
        x.attend(1, 4, 10, 12);
        x.attend(2, NONE, 12, 12);
        x.attend(3, NONE, 12, 12);
        // 10: 0, 1 by two, 2, 3 by two, 8, 9 by two; 11: HAND 2 by two (4, 0), HAND 3 by one (4)
        due(0, x.least(0, 0), "hand 0");
        due(12, x.least(0, 1), "in second 12 nobody looks at 0");
        due(0, x.least(0, 2), "none");
        x.attend(2, 0, 12, 12);
        x.attend(3, 1, 12, 12);
        // 12: 0, 1 by 2; 2 by 3 and 0; 3 by 3; 8, 9 by 1; so second 11 comes first: HAND 3 by one
        due(3, x.least(0, 0), "hand 3");
        due(11, x.least(0, 1), "second 11");
        due(1, x.least(0, 2), "one");
        sound(1, "way a;");
        due(NONE, x.least(0, 0), "there are stories");
        sound(0, "");
        due(NONE, x.least(0, 3), "another what");
        due(NONE, x.least(0, -1), "another what");
        due(NONE, x.least(1, 0), "no report (0)");
        due(NONE, x.least(2, 0), "none such");
        due(NONE, x.least(-1, 0), "none such");
        begin(27, 9);
        x.thing(0);
        x.report(3, 0, 0, 4, 10, 12, 0);
        x.report(3, 0, 0, 2, 10, 12, 0);
        due(NONE, x.least(0, 0), "no hand reaches both");
        due(2, x.least(1, 0), "person 1 reaches both");
        for (int person = 0; person < 9; person++) {
            x.attend(person, 1, 10, 12);
        }
        due(2, x.least(1, 0), "guarded by all");
        due(10, x.least(1, 1), "guarded by all");
        due(8, x.least(1, 2), "guarded by all");
        x.attend(0, 0, 10, 12);
        x.hold(0, 2, 3, 12, 12);
        x.move(1, 0, 1, 10);
        x.report(3, 0, 0, 3, 10, 12, 0);
        x.report(3, 0, 0, 3, 11, 12, 0);
        due(NONE, x.least(2, 0), "it lies at 0 ahead of 10");
        due(4, x.least(3, 0), "it lies at 1 ahead of 11");
        due(11, x.least(3, 1), "it lies at 1 ahead of 11");
        refusals(0, 0, 0, 0, 0);
    }

    private static void passed(int thing, int spot, int persons, int a, int b, int... row) {
        due(row.length / 3, x.pass(thing, spot, persons, a, b, -1), "how many hops");
        for (int what = 0; what < row.length; what++) {
            due(row[what], x.pass(thing, spot, persons, a, b, what), "pass, what " + what);
        }
        due(NONE, x.pass(thing, spot, persons, a, b, row.length), "pass, what " + row.length);
    }

    private static void pass() {
        begin(28, 9);
        x.thing(0);
        // 1 and 8 (and 0) reach SPOT 0; from 0 to 4 by way of the MIDDLE (9)
        passed(0, 0, 0, 5, 6);
        passed(0, 9, 1, 5, 6, 5, 0, 9);
        passed(0, 4, 1 + 16, 5, 9, 5, 0, 9, 6, 8, 4);
        due(NONE, x.pass(0, 4, 1 + 16, 5, 5, -1), "no time for two hops");
        due(NONE, x.pass(0, 4, 1, 5, 99, -1), "nobody reaches it");
        due(NONE, x.pass(0, 4, 0, 5, 99, -1), "nobody");
        passed(0, 2, 511, 50, 99, 50, 2, 2);
        x.hold(2, 0, 0, 50, 60);
        x.hold(3, 5, 5, 50, 59);
        // HAND 2 holds 0, HAND 3 holds 5 up to 59: HAND 3 is FREE from 60 on
        passed(0, 2, 2, 50, 99, 60, 3, 2);
        // two HOPS never count while one will do, however late
        passed(0, 2, 2 + 4 + 256, 50, 99, 60, 3, 2);
        x.hold(3, 5, 5, 60, 99);
        x.hold(2, 0, 0, 61, 99);
        // HANDS 1, 16 and 17 bring it to 8, 0, 9 or 1; HAND 4 to 2
        passed(0, 2, 1 + 4 + 256, 50, 99, 50, 1, 1, 51, 4, 2);
        x.attend(5, 1, 50, 99);
        // SPOT 1 is seen: by way of the MIDDLE
        passed(0, 2, 1 + 4 + 256, 50, 99, 50, 1, 9, 51, 4, 2);
        passed(0, 2, 1 + 4 + 256 + 32, 50, 99, 50, 1, 1, 51, 4, 2);
        x.attend(6, 9, 52, 99);
        x.attend(6, 2, 50, 52);
        due(NONE, x.pass(0, 2, 1 + 4 + 256, 50, 99, -1), "2 is seen up to 52, the middle from 53 on");
        x.attend(6, 2, 50, 51);
        x.attend(6, NONE, 52, 60);
        passed(0, 2, 1 + 4 + 256, 50, 99, 50, 1, 9, 52, 4, 2);
        x.attend(7, 0, 50, 50);
        // the first HOP from 0 must wait for 51
        passed(0, 2, 1 + 4 + 256, 50, 99, 51, 1, 9, 52, 4, 2);
        x.attend(8, 0, 51, 51);
        passed(0, 2, 1 + 4, 50, 99, 52, 1, 9, 53, 4, 2);
        // a HAND that somebody out of the set vouches for does no HOP, though both SPOTS are unseen
        x.attend(3, 2, 53, 55);
        passed(0, 2, 1 + 4, 50, 99, 52, 1, 9, 56, 4, 2);
        passed(0, 2, 1 + 4 + 8, 50, 99, 52, 1, 9, 53, 4, 2);
        due(NONE, x.pass(1, 2, 5, 50, 99, -1), "no such thing");
        due(NONE, x.pass(0, 10, 5, 50, 99, -1), "no such spot");
        due(NONE, x.pass(0, 2, 512, 50, 99, -1), "no such persons");
        due(NONE, x.pass(0, 2, -1, 50, 99, -1), "no such persons");
        due(NONE, x.pass(0, 2, 5, 99, 50, -1), "no such seconds");
        due(NONE, x.pass(0, 2, 5, 50, 99, -2), "another what");
        due(NONE, x.pass(0, 2, 5, 50, 99, MAX), "another what");
        refusals(0, 0, 0, 0, 0);
        passFirst();
    }

    private static void passFirst() {
        begin(28, 5);
        x.thing(0);
        x.move(0, 0, 1, 20);
        passed(0, 1, 1, 20, 30, 20, 0, 1);
        passed(0, 1, 1, 21, 30);
        passed(0, 5, 31, 21, 30, 21, 0, 5);
        // from 1 to 4: by 0 in one HOP
        passed(0, 4, 31, 21, 30, 21, 0, 4);
        // without 0 in two: 1 and 2 reach 1, 3 and 4 reach 4; SPOTS 2, 3 and 5 (and 0, with 1 and 4) lie between
        passed(0, 4, 2 + 4 + 8 + 16, 21, 30, 21, 2, 0, 22, 8, 4);
        passed(0, 4, 4 + 8, 21, 30, 21, 4, 2, 22, 6, 4);
        x.attend(0, 0, 22, 30);
        // with the last second as early as can be, the first HOP as early as can be
        passed(0, 4, 2 + 4 + 8 + 16, 21, 30, 21, 2, 2, 22, 6, 4);
        x.attend(0, 4, 21, 25);
        passed(0, 4, 2 + 4 + 8 + 16, 21, 30, 21, 2, 2, 26, 6, 4);
        x.attend(0, NONE, 26, 30);
        passed(0, 4, 2 + 4 + 8 + 16, 21, 30, 21, 2, 0, 26, 8, 4);
    }

    private static void culprits() {
        begin(29, 6);
        x.thing(0);
        x.thing(3);
        x.report(0, 0, 0, 6, 0, 9, 0);
        x.report(0, 0, 1, 6, 0, 9, 0);
        x.report(0, 0, 0, 0, 0, 9, 0);
        x.report(0, 1, 2, 0, 0, 9, 0);
        x.report(0, 0, 0, 3, 0, 0, 0);
        due(1, x.culprits(1), "0 alone");
        due(4, x.culprits(2), "2 alone");
        due(5, x.culprits(3), "0 and 2");
        due(0, x.culprits(4), "nobody, it lies there");
        due(1, x.culprits(5), "0 alone");
        due(NONE, x.culprits(0), "an empty set");
        due(NONE, x.culprits(-1), "not of reports");
        due(NONE, x.culprits(MIN), "not of reports");
        due(NONE, x.culprits(8), "no report (0)");
        due(NONE, x.culprits(9), "no report (0)");
        due(NONE, x.culprits(32), "none such");
        due(NONE, x.culprits(1 << 30), "none such");
        due(NONE, x.culprits(16), "there are none");
        due(NONE, x.culprits(17), "there are none");
        due(NONE, x.culprits(1 << 29), "none such");
        // each of 0, 1 and 5 is seen by one; watchers must be of the set
        x.attend(4, 6, 0, 99);
        due(17, x.culprits(1), "0 and 4, who watches");
        due(16, x.culprits(2), "4 itself reaches it");
        due(17, x.culprits(3), "0 and 4");
        x.hold(0, 2, 2, 0, 99);
        x.hold(1, 2, 3, 0, 99);
        due(16 + 32, x.culprits(1), "all HANDS of 0 and 1 are full");
        due(16 + 32, x.culprits(3), "4 and 5");
        refusals(0, 0, 0, 0, 0);
        begin(29, 3);
        x.thing(0);
        for (int i = 0; i < 30; i++) {
            x.report(0, 0, 0, 1, i, i, 0);
        }
        due(1, x.culprits((1 << 30) - 1), "thirty reports");
        x.hold(0, 2, 2, 29, 29);
        x.hold(1, 2, 2, 29, 29);
        due(2, x.culprits((1 << 30) - 1), "0 can't in 29");
        due(1, x.culprits((1 << 29) - 1), "without the last");
        x.room(3);
        x.thing(0);
        x.report(2, 1, 0, 1, 0, 9, 0);
        due(NONE, x.culprits(1), "no report (0)");
    }

    private static void record() {
        begin(30, 3);
        x.thing(0);
        x.attend(1, 3, 0, 99);
        x.move(0, 0, 3, 10);
        x.report(1, 0, 0, 3, 10, 10, 0);
        x.report(0, 0, 0, 3, 10, 10, 0);
        x.report(2, 0, 0, 3, 10, 10, 0);
        x.hold(2, 0, 5, 20, 20);
        x.report(1, 1, 0, 0, 20, 20, 0);
        x.report(1, 1, 5, 0, 20, 20, 0);
        x.report(1, 1, 1, 0, 20, 20, 0);
        // of 1: RIGHT and HONEST; HONEST alone; RIGHT alone; neither
        due(4, x.record(1, 0), "how many");
        due(2, x.record(1, 1), "right");
        due(2, x.record(1, 2), "honest");
        due(1, x.record(1, 3), "right, not honest");
        due(1, x.record(1, 4), "honest, not right");
        due(1, x.record(2, 0), "how many");
        due(1, x.record(2, 1), "right");
        due(0, x.record(2, 2), "honest");
        due(1, x.record(2, 3), "right, not honest");
        due(0, x.record(2, 4), "honest, not right");
        due(NONE, x.record(3, 0), "no such person");
        due(NONE, x.record(-1, 0), "no such person");
        due(NONE, x.record(0, 5), "another what");
        due(NONE, x.record(0, -1), "another what");
        refusals(0, 0, 0, 0, 0);
    }

    private static void control() {
        begin(31, 4);
        due(0, x.control(0, 7, MIN, 0, 99, 1), "v isn't asked");
        due(1, x.control(1, MIN, 9, 5, 5, 1000), "what isn't asked");
        due(2, x.control(2, 3, 4, 0, 0, 1), "eyes");
        due(NONE, x.control(3, 0, 0, 0, 0, 1), "no such kind");
        due(NONE, x.control(-1, 0, 0, 0, 0, 1), "no such kind");
        due(NONE, x.control(0, 8, 0, 0, 0, 1), "no such hand");
        due(NONE, x.control(0, -1, 0, 0, 0, 1), "no such hand");
        due(NONE, x.control(2, 4, 0, 0, 0, 1), "no such person");
        due(NONE, x.control(2, 0, 5, 0, 0, 1), "no such spot");
        due(NONE, x.control(2, 0, -1, 0, 0, 1), "no such spot");
        due(NONE, x.control(2, 0, -1, 1, 0, 0), "of several the least");
        refusals(8, 0, 0, 0, 0);
        due(NONE, x.control(1, 0, 10, 0, 0, 1), "light");
        due(NONE, x.control(1, 0, -1, 0, 0, 1), "light");
        due(NONE, x.control(1, 0, 0, 1, 0, 1), "seconds");
        due(NONE, x.control(0, 0, 0, 0, 100, 1), "seconds");
        due(NONE, x.control(0, 0, 0, 0, 0, 0), "cost");
        due(NONE, x.control(0, 0, 0, 0, 0, 1001), "cost");
        refusals(8, 6, 0, 0, 0);
        for (int i = 3; i < 8; i++) {
            due(i, x.control(1, 0, 0, 0, 0, 1), "control");
        }
        due(NONE, x.control(1, 0, 0, 0, 0, 1), "no room");
        due(NONE, x.control(1, 0, 0, 0, 0, 0), "of several the least");
        refusals(8, 7, 1, 0, 0);
        due(8, x.count(8), "count(8)");
    }

    private static void closes() {
        begin(32, 3);
        sound(2, "way a dark 3 free left;way b away free right move right 1;");
        x.thing(0);
        due(0, x.closes(0, 0, 3, 0, 99), "b fits");
        x.control(0, 1, 0, 0, 99, 1);
        x.control(0, 3, 0, 0, 98, 1);
        x.control(0, 5, 0, 0, 99, 1);
        due(0, x.closes(1 + 2, 0, 3, 0, 99), "2 has a free right hand");
        due(1, x.closes(1 + 2 + 4, 0, 3, 0, 98), "all right hands are tied");
        due(0, x.closes(1 + 2 + 4, 0, 3, 0, 99), "but that of 1 in 99");
        x.light(0, 10, 3);
        due(0, x.closes(1 + 2 + 4, 0, 3, 0, 98), "a fits in the dark");
        x.control(1, 0, 4, 0, 98, 1);
        due(1, x.closes(1 + 2 + 4 + 8, 0, 3, 0, 98), "it is light enough");
        // CONTROLS of EYES
        x.control(2, 1, 0, 0, 99, 1);
        x.control(2, 1, 2, 50, 99, 1);
        x.room(3);
        x.thing(0);
        sound(1, "way b away;");
        x.control(2, 1, 0, 0, 99, 1);
        x.control(2, 2, 1, 0, 99, 1);
        x.control(2, 0, 2, 0, 99, 1);
        x.control(2, 2, 0, 50, 50, 1);
        due(1, x.closes(7, 0, 3, 0, 99), "all are watched");
        due(0, x.closes(3, 0, 3, 0, 99), "2 isn't watched");
        due(0, x.closes(15, 0, 3, 50, 50), "of several the last: 1 isn't watched");
        x.lead(3, 9, 0, 99);
        due(1, x.closes(7, 0, 3, 0, 99), "whatever leads there are");
        due(NONE, x.closes(16, 0, 3, 0, 99), "no such set");
        due(NONE, x.closes(-1, 0, 3, 0, 99), "no such set");
        due(NONE, x.closes(0, 1, 3, 0, 99), "no such thing");
        due(NONE, x.closes(0, 0, 4, 0, 99), "no such spot");
        due(NONE, x.closes(0, 0, 3, 0, 100), "no such seconds");
        due(NONE, x.closes(0, 0, 3, 5, 4), "no such seconds");
        sound(0, "");
        due(1, x.closes(0, 0, 3, 0, 99), "there are no ways");
        due(1, x.closes(0, 0, 0, 0, 99), "there are no ways");
        refusals(0, 0, 0, 0, 0);
        // LIGHT is v or more: a CONTROL never darkens, and lets persons see
        begin(32, 3);
        sound(1, "way a move left 1;");
        x.thing(0);
        x.attend(0, 3, 0, 99);
        x.attend(1, 3, 0, 99);
        x.light(0, 99, 2);
        x.control(1, 0, 5, 0, 99, 1);
        x.control(1, 0, 4, 0, 99, 1);
        due(0, x.closes(0, 0, 3, 0, 9), "in the dark");
        due(1, x.closes(1, 0, 3, 0, 9), "in the light");
        due(0, x.closes(2, 0, 3, 0, 9), "in half light");
        due(1, x.closes(3, 0, 3, 0, 9), "in both");
        due(2, x.at(0, 0, 0), "none is in force elsewhere");
        x.light(0, 99, 9);
        due(1, x.closes(2, 0, 3, 0, 9), "it is light already");
    }

    private static void cheapest() {
        begin(33, 3);
        x.thing(0);
        due(0, x.cheapest(0, 3, 0, 99, 0), "nothing is open");
        due(0, x.cheapest(0, 3, 0, 99, 1), "nothing is open");
        sound(1, "way a dark 3;");
        x.light(0, 99, 3);
        due(NONE, x.cheapest(0, 3, 0, 99, 0), "none closes it");
        due(NONE, x.cheapest(0, 3, 0, 99, 1), "none closes it");
        x.control(1, 0, 4, 0, 49, 5);
        x.control(1, 0, 4, 50, 99, 5);
        due(3, x.cheapest(0, 3, 0, 99, 0), "both");
        due(10, x.cheapest(0, 3, 0, 99, 1), "both");
        due(1, x.cheapest(0, 3, 0, 49, 0), "the first");
        due(2, x.cheapest(0, 3, 50, 50, 0), "the other");
        x.control(1, 0, 9, 0, 99, 10);
        due(4, x.cheapest(0, 3, 0, 99, 0), "of like ones the fewest");
        x.control(1, 0, 9, 0, 99, 10);
        due(4, x.cheapest(0, 3, 0, 99, 0), "then the least number");
        x.control(1, 0, 9, 0, 99, 9);
        due(16, x.cheapest(0, 3, 0, 99, 0), "the least cost");
        due(9, x.cheapest(0, 3, 0, 99, 1), "the least cost");
        x.control(1, 0, 9, 0, 49, 1000);
        x.control(1, 0, 9, 0, 49, 1);
        x.control(1, 0, 9, 50, 99, 7);
        due(64 + 2, x.cheapest(0, 3, 0, 99, 0), "two for six");
        due(6, x.cheapest(0, 3, 0, 99, 1), "two for six");
        due(NONE, x.cheapest(0, 3, 0, 99, 2), "another what");
        due(NONE, x.cheapest(0, 3, 0, 99, -1), "another what");
        due(NONE, x.cheapest(1, 3, 0, 99, 0), "no such thing");
        due(NONE, x.cheapest(0, 4, 0, 99, 0), "no such spot");
        due(NONE, x.cheapest(0, 3, 99, 0, 0), "no such seconds");
        refusals(0, 0, 0, 0, 0);
    }

    private static void opens() {
        begin(34, 5);
        sound(2, "way a move left 1;way b away move right 2;");
        x.thing(0);
        x.attend(2, 5, 0, 99);
        x.control(2, 2, 3, 0, 99, 1);
        x.control(2, 2, 1, 10, 10, 1);
        x.control(2, 3, 3, 0, 99, 1);
        x.control(0, 0, 0, 0, 99, 1);
        // 0, 1 and 4 reach both; 2 watches the middle
        due(6, x.opens(0, 0, 5, 5, 9), "2 looks elsewhere");
        due(0, x.opens(1, 0, 5, 5, 9), "not in these seconds");
        due(2, x.opens(1, 0, 5, 9, 10), "way a for 0 and 4");
        due(0, x.opens(2, 0, 5, 0, 99), "3 doesn't matter");
        due(0, x.opens(3, 0, 5, 0, 99), "a tie opens nothing");
        x.attend(2, 5, 0, 8);
        x.attend(2, NONE, 9, 9);
        due(3, x.opens(0, 0, 5, 5, 9), "a fits in 9 without");
        due(NONE, x.opens(4, 0, 5, 0, 99), "no such control");
        due(NONE, x.opens(-1, 0, 5, 0, 99), "no such control");
        due(NONE, x.opens(0, 1, 5, 0, 99), "no such thing");
        due(NONE, x.opens(0, 0, 6, 0, 99), "no such spot");
        due(NONE, x.opens(0, 0, 5, -1, 99), "no such seconds");
        refusals(0, 0, 0, 0, 0);
    }

    private static void next() {
        begin(35, 5);
        sound(2, "way a free left;way b free right;");
        x.thing(0);
        x.report(0, 0, 0, 5, 10, 20, 0);
        x.report(0, 1, 2, 0, 10, 20, 0);
        due(NONE, x.next(0, 1000), "there are no controls");
        x.control(1, 0, 9, 0, 99, 5);
        x.control(0, 0, 0, 0, 99, 10);
        x.control(0, 1, 0, 0, 99, 9);
        due(NONE, x.next(0, 4), "none has so low a cost");
        due(NONE, x.next(0, MIN), "none has so low a cost");
        due(0, x.next(0, 5), "it parts nothing, but it is the one");
        due(2, x.next(0, 9), "one story ends");
        due(1, x.next(0, 10), "of like ones the least");
        due(1, x.next(0, MAX), "of like ones the least");
        due(NONE, x.next(1, 1000), "no report (0)");
        due(NONE, x.next(2, 1000), "none such");
        due(NONE, x.next(-1, 1000), "none such");
        // with dark ways a light ends half of the stories
        sound(2, "way a dark 3;way b;");
        x.light(0, 99, 0);
        due(0, x.next(0, 1000), "three of six");
        // a control that opens more than it leaves isn't counted for that
        sound(3, "way a away move left 1;way b free left;way c dark 3;");
        x.light(0, 99, 9);
        x.attend(2, 5, 0, 99);
        x.control(2, 2, 2, 0, 99, 1);
        // told: b for 0, 1, 4; CONTROL 3 leaves all of them, 1 ends one
        due(1, x.next(0, 1000), "one of three");
        refusals(0, 0, 0, 0, 0);
    }

    private static void trial() {
        begin(36, 3);
        due(0, x.trial(2, 1), "trial");
        due(1, x.trial(20, 19), "trial");
        due(NONE, x.trial(1, 1), "answers");
        due(NONE, x.trial(21, 1), "answers");
        due(NONE, x.trial(5, 5), "not all");
        due(NONE, x.trial(5, 0), "1 and more");
        due(NONE, x.trial(MIN, -1), "answers");
        refusals(0, 5, 0, 0, 0);
        for (int i = 2; i < 9; i++) {
            due(i, x.trial(3, 1), "trial");
        }
        due(NONE, x.trial(3, 1), "no room");
        due(NONE, x.trial(3, 3), "of several the least");
        refusals(0, 6, 1, 0, 0);
        due(9, x.count(9), "count(9)");
    }

    private static void luck() {
        begin(37, 3);
        due(1, x.luck(-1), "one empty row");
        due(1, x.luck(0), "one empty row");
        due(0, x.luck(1), "no hit");
        x.trial(5, 2);
        x.trial(3, 1);
        x.trial(2, 1);
        // of 30 rows: no hit 3 2 1 = 6, three hits 2 1 1 = 2, one hit 2 2 1 + 3 1 1 + 3 2 1 = 13
        due(30, x.luck(-1), "all rows");
        due(30, x.luck(0), "none or more");
        due(24, x.luck(1), "one or more");
        due(11, x.luck(2), "two or more");
        due(2, x.luck(3), "three");
        due(0, x.luck(4), "four");
        due(0, x.luck(MAX), "many");
        due(NONE, x.luck(-2), "below -1");
        due(NONE, x.luck(MIN), "below -1");
        x.room(3);
        for (int i = 0; i < 9; i++) {
            x.trial(20, 19);
        }
        due(512000000000L, x.luck(-1), "20 to the 9th");
        due(322687697779L, x.luck(9), "19 to the 9th");
        due(511999999999L, x.luck(1), "all but one");
        refusals(0, 0, 0, 0, 0);
    }

    private static void chance() {
        begin(38, 3);
        due(1000000, x.chance(0, 1), "no trials");
        due(0, x.chance(1, 100), "no trials");
        x.trial(3, 1);
        due(333333, x.chance(1, 1), "a third, rounded down");
        // LEFT: 666667, then 666667 times 666667 by a million: 444444(.888)
        due(555556, x.chance(1, 2), "two sittings");
        // then 444444 times 666667 by a million: 296296(.148)
        due(703704, x.chance(1, 3), "three sittings");
        due(1000000, x.chance(0, 100), "certain");
        due(0, x.chance(2, 100), "impossible");
        due(NONE, x.chance(-1, 1), "h below 0");
        due(NONE, x.chance(MIN, 1), "h below 0");
        due(NONE, x.chance(1, 0), "no such r");
        due(NONE, x.chance(1, 101), "no such r");
        due(1000000, x.chance(1, 100), "a hundred sittings");
        x.room(3);
        for (int i = 0; i < 9; i++) {
            x.trial(20, 19);
        }
        // 19 to the 9th by 20 to the 9th: 0.6302494..
        due(630249, x.chance(9, 1), "nine of nine");
        refusals(0, 0, 0, 0, 0);
    }

    private static void ease() {
        begin(39, 3);
        // in a ring of three all are neighbours: the empty one and six of one HAND
        due(7, x.ease(7, -1), "how many");
        for (int i = 1; i <= 6; i++) {
            due(1 << i - 1, x.ease(7, i), "set " + i);
        }
        due(0, x.ease(7, 0), "the empty one");
        due(NONE, x.ease(7, 7), "no seventh");
        due(3, x.ease(2, -1), "of person 1");
        due(4, x.ease(2, 1), "hand 2");
        due(8, x.ease(2, 2), "hand 3");
        due(1, x.ease(0, -1), "of nobody");
        due(0, x.ease(0, 0), "of nobody");
        due(NONE, x.ease(0, 1), "of nobody");
        due(NONE, x.ease(8, -1), "no such persons");
        due(NONE, x.ease(-1, -1), "no such persons");
        due(NONE, x.ease(7, -2), "none such");
        due(NONE, x.ease(7, MAX), "none such");
        begin(39, 4);
        // 0 and 2 may both, 1 and 3 may both: 1 + 8 + 4 + 4
        due(17, x.ease(15, -1), "how many");
        due(0x10, x.ease(15, 5), "hand 4 alone, behind 0 to 3");
        due(0x11, x.ease(15, 6), "hands 0 and 4");
        due(0x12, x.ease(15, 7), "hands 1 and 4");
        due(0x20, x.ease(15, 8), "hand 5");
        due(0x40, x.ease(15, 11), "hand 6");
        due(0x44, x.ease(15, 12), "hands 2 and 6");
        due(0x88, x.ease(15, 16), "hands 3 and 7");
        due(NONE, x.ease(15, 17), "none such");
        due(5, x.ease(9, -1), "0 and 3 are neighbours");
        due(9, x.ease(5, -1), "0 and 2 aren't");
        begin(39, 9);
        due(511, x.ease(511, -1), "a ring of nine");
        // 1, 3, 5 and 7, or 8 with 2, 4 and 6, or 1, 3, 5 ..: the greatest is of 8, 6, 4 and 2, right ones
        due(1 << 17 | 1 << 13 | 1 << 9 | 1 << 5, x.ease(511, 510), "the last");
        refusals(0, 0, 0, 0, 0);
    }

    private static void fair() {
        begin(40, 3);
        sound(1, "way a free left;");
        x.thing(0);
        for (int hand = 0; hand < 6; hand += 2) {
            x.control(0, hand, 0, 0, 99, 1);
        }
        x.trial(4, 1);
        x.trial(4, 1);
        // CHANCE: of one or more 7 of 16, of two 1 of 16
        due(0, x.fair(7, 2, 62500, 0, 3, 0, 99), "fair");
        due(2, x.fair(7, 2, 62499, 0, 3, 0, 99), "chance is above it");
        due(1, x.fair(3, 2, 62499, 0, 3, 0, 99), "they don't close it");
        due(3, x.fair(7, 3, 0, 0, 3, 0, 99), "there are fewer trials");
        due(1, x.fair(3, 3, 0, 0, 3, 0, 99), "they don't close it");
        due(0, x.fair(7, 1, 437500, 0, 3, 0, 99), "fair");
        due(2, x.fair(7, 0, 999999, 0, 3, 0, 99), "certain");
        due(0, x.fair(7, 0, 1000000, 0, 3, 0, 99), "certain");
        due(NONE, x.fair(8, 0, 0, 0, 3, 0, 99), "no such set");
        due(NONE, x.fair(-1, 0, 0, 0, 3, 0, 99), "no such set");
        due(NONE, x.fair(7, -1, 0, 0, 3, 0, 99), "h below 0");
        due(NONE, x.fair(7, 0, -1, 0, 3, 0, 99), "limit");
        due(NONE, x.fair(7, 0, 1000001, 0, 3, 0, 99), "limit");
        due(NONE, x.fair(7, 0, 0, 1, 3, 0, 99), "no such thing");
        due(NONE, x.fair(7, 0, 0, 0, 4, 0, 99), "no such spot");
        due(NONE, x.fair(7, 0, 0, 0, 3, 9, 8), "no such seconds");
        due(3, x.fair(7, MAX, 0, 0, 3, 0, 99), "many hits");
        refusals(0, 0, 0, 0, 0);
    }

    private static void status() {
        begin(41, 3);
        due(NONE, x.status(0), "another reason");
        due(NONE, x.status(6), "another reason");
        due(NONE, x.status(-1), "another reason");
        due(NONE, x.status(MAX), "another reason");
        x.image(3);
        x.room(2);
        for (int i = 0; i < 10; i++) {
            x.thing(0);
        }
        write("x");
        x.restore(0);
        refusals(1, 1, 2, 1, 1);
        due(1, x.room(4), "room");
        refusals(1, 1, 2, 1, 1);
    }

    private static void count() {
        begin(42, 4);
        x.lead(0, 1, 0, 0);
        x.lead(0, 1, 0, 0);
        x.thing(0);
        x.thing(0);
        x.thing(0);
        for (int i = 0; i < 4; i++) {
            x.move(0, 0, i % 2 == 0 ? 4 : 0, i);
        }
        sound(5, "way a;way b;way c;way d;way e;memory 6 7;");
        for (int i = 0; i < 8; i++) {
            x.report(0, 0, 0, 0, 0, 0, 0);
            x.trial(2, 1);
        }
        for (int i = 0; i < 7; i++) {
            x.control(1, 0, 0, 0, 0, 1);
        }
        x.feed(0, 0, 0, 0, 0);
        int[] all = {4, 2, 3, 4, 5, 6, 7, 8, 7, 8, 20};
        for (int what = 0; what < all.length; what++) {
            due(all[what], x.count(what), "count(" + what + ")");
        }
        due(NONE, x.count(11), "another what");
        due(NONE, x.count(-1), "another what");
        due(NONE, x.count(MIN), "another what");
        refusals(0, 0, 0, 0, 0);
    }

    /** REPORTS whose THING isn't there any more, by restore(). */
    private static void goneThings() {
        begin(23, 3);
        x.image(0);
        x.thing(1);
        x.thing(0);
        sound(1, "way a;");
        x.attend(1, 3, 0, 99);
        x.move(0, 1, 3, 5);
        x.report(1, 0, 1, 3, 0, 9, 0);
        x.report(2, 0, 1, 3, 0, 9, 0);
        x.control(0, 0, 0, 0, 99, 1);
        x.control(1, 0, 0, 0, 99, 1);
        due(1, x.right(0), "right");
        due(1, x.honest(0), "honest");
        due(3, x.stories(0, false, 0), "stories");
        x.restore(0);
        due(2, x.count(7), "the reports stay");
        due(0, x.right(0), "right");
        due(0, x.honest(0), "honest");
        for (int what = 0; what < 3; what++) {
            due(0, x.stories(0, false, what), "stories");
            due(0, x.stories(0, true, what), "stories");
            due(NONE, x.least(0, what), "least");
        }
        due(NONE, x.stories(0, true, 3), "another what");
        due(1, x.agree(0, 1), "agree");
        due(NONE, x.culprits(1), "culprits");
        due(0, x.next(0, 1), "next");
        due(1, x.record(1, 0), "record");
        due(0, x.record(1, 1), "record");
        due(0, x.record(1, 2), "record");
        // a THING of that number is there again
        x.thing(2);
        due(0, x.stories(0, false, 0), "one thing isn't enough");
        x.thing(2);
        due(3, x.stories(0, false, 0), "stories of the new one");
        sound(0, "");
        due(0, x.least(0, 0), "least of the new one");
        due(1, x.culprits(1), "culprits of the new one");
        refusals(0, 0, 0, 0, 0);
    }
}
