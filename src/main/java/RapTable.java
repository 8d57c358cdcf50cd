import java.util.Arrays;

/**
 * A table that raps: who sits at it, what their hands truly do in the dark, by which ways a thing can be
 * moved unseen, what is told of it afterwards, and which controls would close those ways.
 */
public final class RapTable {
    public static final int NONE = -1;

    private static final int SECONDS = 100;
    private static final int FEWEST_SEATS = 3;
    private static final int MOST_SEATS = 9;
    private static final int MOST_HANDS = 18;
    private static final int MOST_SPOTS = 10;
    private static final int MOST_LEADS = 12;
    private static final int PULLS = 10;
    private static final int MOST_THINGS = 8;
    private static final int MOST_MOVES = 40;
    private static final int MOST_REPORTS = 30;
    private static final int MOST_CONTROLS = 8;
    private static final int MOST_TRIALS = 9;
    private static final int MOST_WAYS = 8;
    private static final int MOST_STEPS = 8;
    private static final int MOST_BYTES = 400;
    private static final int IMAGES = 3;
    private static final int REASONS = 5;
    private static final int MILLION = 1000000;

    private static final int NO_SUCH = 1;
    private static final int BAD_NUMBER = 2;
    private static final int NO_ROOM = 3;
    private static final int FAULTY = 4;
    private static final int NOT_SO = 5;

    private static final int TIES = 0;
    private static final int LIGHTS = 1;
    private static final int LOOKS = 2;

    // The words of the TEXT, eight signs each; a word's place here is its token.
    private static final String WORDS =
            "way     memory  free    move    wait    dark    away    swap    call    ready   left    right   ";
    private static final int WORD_SIGNS = 8;
    private static final int MOST_DIGITS = 3;
    private static final int WORD_WAY = 0;
    private static final int WORD_MEMORY = 1;
    private static final int WORD_FREE = 2;
    private static final int WORD_MOVE = 3;
    private static final int WORD_WAIT = 4;
    private static final int WORD_DARK = 5;
    private static final int WORD_AWAY = 6;
    private static final int WORD_SWAP = 7;
    private static final int WORD_CALL = 8;
    private static final int WORD_READY = 9;
    private static final int WORD_LEFT = 10;
    private static final int WORD_RIGHT = 11;
    private static final int NAME = 12;
    private static final int NUMBER = 13;
    private static final int SEMICOLON = 14;
    private static final int END = 15;
    private static final int NO_TOKEN = 16;

    private final Room room = new Room();
    private final Room[] images = new Room[IMAGES];
    private int imaged;
    private final Watch plain = new Watch();
    private final Watch forced = new Watch();
    private boolean stale = true;
    private final Script script = new Script();
    private final Reports reports = new Reports();
    private final Controls controls = new Controls();
    private final Trials trials = new Trials();
    private final Task task = new Task();
    private final Sleight sleight = new Sleight(room, task, script.now, plain);
    private final Route route = new Route(room, task, plain);
    private final int[] told = new int[MOST_WAYS];
    private final int[] toldUnderControl = new int[MOST_WAYS];
    private final int[] refused = new int[REASONS + 1];

    public RapTable() {
        room.begin(FEWEST_SEATS);
    }

    // ---- the room

    public boolean room(int seats) {
        if (!within(seats, FEWEST_SEATS, MOST_SEATS)) {
            return refuse(BAD_NUMBER);
        }
        room.begin(seats);
        imaged = 0;
        reports.size = 0;
        controls.size = 0;
        trials.size = 0;
        stale = true;
        return true;
    }

    public boolean person(int person, int need, int firm) {
        if (!room.hasPerson(person)) {
            return refuse(NO_SUCH);
        }
        if (!within(need, 0, 9) || !within(firm, 0, 9)) {
            return refuse(BAD_NUMBER);
        }
        room.need[person] = need;
        room.firm[person] = firm;
        stale = true;
        return true;
    }

    public boolean light(int from, int to, int v) {
        if (!isSpan(from, to) || !within(v, 0, 9)) {
            return refuse(BAD_NUMBER);
        }
        for (int second = from; second <= to; second++) {
            room.light[second] = v;
        }
        stale = true;
        return true;
    }

    public boolean attend(int person, int spot, int from, int to) {
        if (!room.hasPerson(person) || spot != NONE && !room.hasSpot(spot)) {
            return refuse(NO_SUCH);
        }
        if (!isSpan(from, to)) {
            return refuse(BAD_NUMBER);
        }
        for (int second = from; second <= to; second++) {
            room.eyes[person * SECONDS + second] = spot;
        }
        stale = true;
        return true;
    }

    public int lead(int spot, int pull, int from, int to) {
        if (!room.hasSpot(spot)) {
            return none(NO_SUCH);
        }
        if (!within(pull, 1, 9) || !isSpan(from, to)) {
            return none(BAD_NUMBER);
        }
        if (room.leads >= MOST_LEADS) {
            return none(NO_ROOM);
        }
        stale = true;
        return room.addLead(spot, pull, from, to);
    }

    public boolean hold(int hand, int seems, int truly, int from, int to) {
        boolean lets = seems == NONE && truly == NONE;
        if (!room.hasHand(hand) || !lets && !(room.hasHand(seems) && room.hasHand(truly))) {
            return refuse(NO_SUCH);
        }
        if (!isSpan(from, to)) {
            return refuse(BAD_NUMBER);
        }
        int person = hand / 2;
        if (!lets && (!room.areNeighbours(person, seems / 2) || truly / 2 == person)) {
            return refuse(NOT_SO);
        }
        for (int second = from; second <= to; second++) {
            room.seems[hand * SECONDS + second] = seems;
            room.truly[hand * SECONDS + second] = truly;
        }
        stale = true;
        return true;
    }

    public int thing(int spot) {
        if (!room.hasSpot(spot)) {
            return none(NO_SUCH);
        }
        if (room.things >= MOST_THINGS) {
            return none(NO_ROOM);
        }
        if (room.moves > 0) {
            return none(NOT_SO);
        }
        return room.addThing(spot);
    }

    public int move(int hand, int thing, int spot, int second) {
        if (!room.hasHand(hand) || !room.hasThing(thing) || !room.hasSpot(spot)) {
            return none(NO_SUCH);
        }
        if (!isSecond(second)) {
            return none(BAD_NUMBER);
        }
        if (room.moves >= MOST_MOVES) {
            return none(NO_ROOM);
        }
        int lies = room.spotOf(thing, SECONDS - 1);
        if (lies == spot || !room.reachesBoth(hand / 2, lies, spot)
                || !room.isFree(hand, second) || room.movedAfter(second)) {
            return none(NOT_SO);
        }
        return room.addMove(hand, thing, lies, spot, second);
    }

    public int where(int thing, int second) {
        if (!room.hasThing(thing) || second != NONE && !isSecond(second)) {
            return NONE;
        }
        return room.spotOf(thing, second);
    }

    public int saw(int move, int person) {
        if (move < 0 || move >= room.moves || !room.hasPerson(person) || room.moveHand[move] / 2 == person) {
            return NONE;
        }
        return bit(room.sawMove(move, person));
    }

    public int at(int what, int which, int second) {
        if (!isSecond(second)) {
            return NONE;
        }
        switch (what) {
            case 0:
                return room.light[second];
            case 1:
                return room.hasPerson(which) ? room.eyesOf(which, second) : NONE;
            case 2:
                return room.hasHand(which) ? bit(room.isFree(which, second)) : NONE;
            case 3:
                return room.hasHand(which) ? room.seems[which * SECONDS + second] : NONE;
            case 4:
                return room.hasHand(which) ? room.truly[which * SECONDS + second] : NONE;
            case 5:
                return room.hasPerson(which) ? bit(room.leadOn(which, second) != NONE) : NONE;
            default:
                return NONE;
        }
    }

    public int vouch(int hand, int second, boolean truly) {
        if (!room.hasHand(hand) || !isSecond(second)) {
            return NONE;
        }
        return vouchersOf(hand, second, truly);
    }

    public int gap(int hand, boolean truly, int what) {
        if (!room.hasHand(hand) || !within(what, 0, 3)) {
            return NONE;
        }
        int gaps = 0;
        int first = NONE;
        int run = 0;
        int longest = 0;
        int believed = 0;
        for (int second = 0; second < SECONDS; second++) {
            boolean vouched = vouchersOf(hand, second, true) != 0;
            boolean said = vouchersOf(hand, second, false) != 0;
            if (!vouched && said) {
                believed++;
            }
            if (truly ? vouched : said) {
                run = 0;
            } else {
                gaps++;
                run++;
                longest = Math.max(longest, run);
                first = first == NONE ? second : first;
            }
        }
        return what == 0 ? gaps : what == 1 ? first : what == 2 ? longest : believed;
    }

    public boolean image(int i) {
        if (!within(i, 0, IMAGES - 1)) {
            return refuse(NO_SUCH);
        }
        if (images[i] == null) {
            images[i] = new Room();
        }
        images[i].copyOf(room);
        imaged |= 1 << i;
        return true;
    }

    public boolean restore(int i) {
        if (!within(i, 0, IMAGES - 1)) {
            return refuse(NO_SUCH);
        }
        if ((imaged >> i & 1) == 0 || images[i] == null) {
            return refuse(NOT_SO);
        }
        room.copyOf(images[i]);
        stale = true;
        return true;
    }

    // ---- ways

    public int feed(int a, int b, int c, int d, int e) {
        if (script.taped > MOST_BYTES - 20) {
            return NONE;
        }
        script.tapeInt(a);
        script.tapeInt(b);
        script.tapeInt(c);
        script.tapeInt(d);
        script.tapeInt(e);
        return script.taped;
    }

    public int text(int n) {
        if (n < 0 || n > script.taped) {
            return none(BAD_NUMBER);
        }
        if (!script.readTape(n)) {
            return none(FAULTY);
        }
        return script.now.size;
    }

    public int fault(int what) {
        return what == 0 ? script.fault : what == 1 ? script.faultPlace : NONE;
    }

    public int way(int way, int what) {
        if (!script.now.hasWay(way)) {
            return NONE;
        }
        return what == 0 ? script.now.steps[way] : what == 1 ? script.now.time[way] : NONE;
    }

    public int fits(int way, int person, int friends, int thing, int spot, int a, int b) {
        if (!script.now.hasWay(way) || !room.hasPerson(person) || !isPersons(friends)
                || !setTask(thing, spot, a, b)) {
            return NONE;
        }
        sleight.aim(script.now, watchNow());
        return sleight.firstFit(way, person, friends);
    }

    // ---- reports

    public int report(int person, int kind, int what, int spot, int a, int b, int day) {
        boolean ofThing = kind == 0 && room.hasThing(what) && room.hasSpot(spot);
        boolean ofHand = kind == 1 && room.hasHand(what) && what / 2 != person;
        if (!room.hasPerson(person) || !ofThing && !ofHand) {
            return none(NO_SUCH);
        }
        if (!isSpan(a, b) || !within(day, 0, 30)) {
            return none(BAD_NUMBER);
        }
        if (reports.size >= MOST_REPORTS) {
            return none(NO_ROOM);
        }
        int report = reports.size;
        reports.person[report] = person;
        reports.kind[report] = kind;
        reports.what[report] = what;
        reports.spot[report] = spot;
        reports.from[report] = a;
        reports.to[report] = b;
        reports.day[report] = day;
        reports.size++;
        return report;
    }

    public int right(int report) {
        return reports.has(report) ? bit(reports.isRight(report, room)) : NONE;
    }

    public int honest(int report) {
        return reports.has(report) ? bit(reports.isHonest(report, room, script.now)) : NONE;
    }

    public int agree(int a, int b) {
        if (!reports.has(a) || !reports.has(b) || a == b) {
            return NONE;
        }
        return bit(reports.doAgree(a, b));
    }

    public int stories(int report, boolean friend, int what) {
        if (!reports.isOfThing(report) || !within(what, 0, 2)) {
            return NONE;
        }
        if (!setTaskOf(report)) {
            return 0;
        }
        sleight.aim(script.now, watchNow());
        sleight.tell(friend, told);
        int pairs = 0;
        int persons = 0;
        int ways = 0;
        for (int way = 0; way < MOST_WAYS; way++) {
            pairs += Integer.bitCount(told[way]);
            persons |= told[way];
            ways |= told[way] == 0 ? 0 : 1 << way;
        }
        return what == 0 ? pairs : what == 1 ? persons : ways;
    }

    public int least(int report, int what) {
        if (!reports.isOfThing(report) || !within(what, 0, 2) || !setTaskOf(report)) {
            return NONE;
        }
        Watch watch = watchNow();
        sleight.aim(script.now, watch);
        if (sleight.anyFits()) {
            return NONE;
        }
        int lies = room.spotOf(task.thing, task.from - 1);
        int leastHand = NONE;
        int leastSecond = NONE;
        int fewest = MOST_SEATS + 1;
        for (int second = task.from; second <= task.to; second++) {
            for (int hand = 0; hand < 2 * room.seats; hand++) {
                int guards = Integer.bitCount(watch.vouchers(hand, second));
                if (guards < fewest && room.reachesBoth(hand / 2, lies, task.spot)) {
                    fewest = guards;
                    leastHand = hand;
                    leastSecond = second;
                }
            }
        }
        if (leastHand == NONE) {
            return NONE;
        }
        return what == 0 ? leastHand : what == 1 ? leastSecond : fewest;
    }

    public int pass(int thing, int spot, int persons, int a, int b, int what) {
        if (!isPersons(persons) || !setTask(thing, spot, a, b) || what < -1) {
            return NONE;
        }
        route.chart(watchNow(), persons, a, b);
        int hops = route.findShortest();
        if (what == -1) {
            return hops;
        }
        return hops != NONE && what < 3 * hops ? route.hops[what] : NONE;
    }

    public int culprits(int reports) {
        if (reports <= 0 || !areReportsOfThings(reports)) {
            return NONE;
        }
        int everybody = (1 << room.seats) - 1;
        if (!allPass(reports, everybody)) {
            return NONE;
        }
        for (int fewest = 0; fewest < room.seats; fewest++) {
            for (int persons = 0; persons < everybody; persons++) {
                if (Integer.bitCount(persons) == fewest && allPass(reports, persons)) {
                    return persons;
                }
            }
        }
        return everybody;
    }

    public int record(int person, int what) {
        if (!room.hasPerson(person) || !within(what, 0, 4)) {
            return NONE;
        }
        int found = 0;
        for (int report = 0; report < reports.size; report++) {
            if (reports.person[report] == person) {
                boolean right = reports.isRight(report, room);
                boolean honest = reports.isHonest(report, room, script.now);
                found += bit(what == 0 || what == 1 && right || what == 2 && honest
                        || what == 3 && right && !honest || what == 4 && honest && !right);
            }
        }
        return found;
    }

    // ---- controls

    public int control(int kind, int what, int v, int from, int to, int cost) {
        boolean there = kind == LIGHTS || kind == TIES && room.hasHand(what)
                || kind == LOOKS && room.hasPerson(what) && room.hasSpot(v);
        if (!there) {
            return none(NO_SUCH);
        }
        if (kind == LIGHTS && !within(v, 0, 9) || !isSpan(from, to) || !within(cost, 1, 1000)) {
            return none(BAD_NUMBER);
        }
        if (controls.size >= MOST_CONTROLS) {
            return none(NO_ROOM);
        }
        int control = controls.size;
        controls.kind[control] = kind;
        controls.what[control] = what;
        controls.value[control] = v;
        controls.from[control] = from;
        controls.to[control] = to;
        controls.cost[control] = cost;
        controls.size++;
        return control;
    }

    public int closes(int set, int thing, int spot, int a, int b) {
        if (!controls.hasSet(set) || !setTask(thing, spot, a, b)) {
            return NONE;
        }
        return bit(closesTask(set));
    }

    public int cheapest(int thing, int spot, int a, int b, int what) {
        if (!setTask(thing, spot, a, b) || !within(what, 0, 1)) {
            return NONE;
        }
        int best = NONE;
        int bestCost = 0;
        for (int set = 0; set < 1 << controls.size; set++) {
            int cost = controls.costOf(set);
            boolean better = best == NONE || cost < bestCost
                    || cost == bestCost && Integer.bitCount(set) < Integer.bitCount(best);
            if (better && closesTask(set)) {
                best = set;
                bestCost = cost;
            }
        }
        return best == NONE ? NONE : what == 0 ? best : bestCost;
    }

    public int opens(int control, int thing, int spot, int a, int b) {
        if (control < 0 || control >= controls.size || !setTask(thing, spot, a, b)) {
            return NONE;
        }
        sleight.aim(script.now, watchNow());
        sleight.tell(false, told);
        sleight.aim(script.now, watchUnder(1 << control));
        sleight.tell(false, toldUnderControl);
        int opened = 0;
        for (int way = 0; way < MOST_WAYS; way++) {
            opened += Integer.bitCount(toldUnderControl[way] & ~told[way]);
        }
        return opened;
    }

    public int next(int report, int cost) {
        if (!reports.isOfThing(report)) {
            return NONE;
        }
        boolean there = setTaskOf(report);
        if (there) {
            sleight.aim(script.now, watchNow());
            sleight.tell(false, told);
        }
        int best = NONE;
        int bestSplit = NONE;
        for (int control = 0; control < controls.size; control++) {
            if (controls.cost[control] <= cost) {
                int split = there ? splitBy(control) : 0;
                if (split > bestSplit) {
                    best = control;
                    bestSplit = split;
                }
            }
        }
        return best;
    }

    // ---- luck, rings, rules

    public int trial(int answers, int hits) {
        if (!within(answers, 2, 20) || !within(hits, 1, answers - 1)) {
            return none(BAD_NUMBER);
        }
        if (trials.size >= MOST_TRIALS) {
            return none(NO_ROOM);
        }
        trials.answers[trials.size] = answers;
        trials.hits[trials.size] = hits;
        return trials.size++;
    }

    public long luck(int h) {
        return h < -1 ? NONE : trials.rowsWith(h);
    }

    public int chance(int h, int r) {
        if (h < 0 || !within(r, 1, 100)) {
            return NONE;
        }
        long missed = MILLION - trials.chanceOf(h);
        long left = MILLION;
        for (int sitting = 0; sitting < r; sitting++) {
            left = left * missed / MILLION;
        }
        return (int) (MILLION - left);
    }

    public int ease(int persons, int i) {
        if (!isPersons(persons) || i < -1) {
            return NONE;
        }
        int sets = easeSets(persons);
        if (i == -1) {
            return sets;
        }
        return i < sets ? easeSet(persons, i) : NONE;
    }

    public int fair(int set, int h, int limit, int thing, int spot, int a, int b) {
        if (!controls.hasSet(set) || !setTask(thing, spot, a, b) || h < 0 || !within(limit, 0, MILLION)) {
            return NONE;
        }
        if (!closesTask(set)) {
            return 1;
        }
        if (trials.chanceOf(h) > limit) {
            return 2;
        }
        return trials.size < h ? 3 : 0;
    }

    public int status(int reason) {
        return within(reason, 1, REASONS) ? refused[reason] : NONE;
    }

    public int count(int what) {
        switch (what) {
            case 0:
                return room.seats;
            case 1:
                return room.leads;
            case 2:
                return room.things;
            case 3:
                return room.moves;
            case 4:
                return script.now.size;
            case 5:
                return script.now.loss;
            case 6:
                return script.now.smooth;
            case 7:
                return reports.size;
            case 8:
                return controls.size;
            case 9:
                return trials.size;
            case 10:
                return script.taped;
            default:
                return NONE;
        }
    }

    // ---- what the calls share

    private static boolean within(int v, int low, int high) {
        return v >= low && v <= high;
    }

    private static boolean isSecond(int second) {
        return second >= 0 && second < SECONDS;
    }

    private static boolean isSpan(int from, int to) {
        return isSecond(from) && isSecond(to) && from <= to;
    }

    private static int bit(boolean so) {
        return so ? 1 : 0;
    }

    private boolean refuse(int reason) {
        refused[reason]++;
        return false;
    }

    private int none(int reason) {
        refused[reason]++;
        return NONE;
    }

    private boolean isPersons(int set) {
        return set >= 0 && set < 1 << room.seats;
    }

    private boolean setTask(int thing, int spot, int from, int to) {
        if (!room.hasThing(thing) || !room.hasSpot(spot) || !isSpan(from, to)) {
            return false;
        }
        task.thing = thing;
        task.spot = spot;
        task.from = from;
        task.to = to;
        return true;
    }

    // False where restore() took the THING of the REPORT away.
    private boolean setTaskOf(int report) {
        return setTask(reports.what[report], reports.spot[report], reports.from[report], reports.to[report]);
    }

    private Watch watchNow() {
        if (stale) {
            plain.watchOver(room);
            stale = false;
        }
        return plain;
    }

    private Watch watchUnder(int set) {
        forced.copyOf(watchNow());
        forced.enforce(controls, set, room);
        return forced;
    }

    private int vouchersOf(int hand, int second, boolean truly) {
        int person = hand / 2;
        int holders = room.holdersOf(truly ? room.truly : room.seems, hand, second);
        return (holders | room.seersOf(person, second)) & ~(1 << person);
    }

    private boolean closesTask(int set) {
        sleight.aim(script.now, watchUnder(set));
        return !sleight.anyFits();
    }

    // The lesser part of the told STORIES, of those that a CONTROL leaves and those that it ends.
    private int splitBy(int control) {
        sleight.aim(script.now, watchUnder(1 << control));
        sleight.tell(false, toldUnderControl);
        int left = 0;
        int ended = 0;
        for (int way = 0; way < MOST_WAYS; way++) {
            left += Integer.bitCount(told[way] & toldUnderControl[way]);
            ended += Integer.bitCount(told[way] & ~toldUnderControl[way]);
        }
        return Math.min(left, ended);
    }

    private boolean areReportsOfThings(int set) {
        for (int report = 0; report <= MOST_REPORTS; report++) {
            if ((set >> report & 1) != 0
                    && !(reports.isOfThing(report) && room.hasThing(reports.what[report]))) {
                return false;
            }
        }
        return true;
    }

    private boolean allPass(int set, int persons) {
        int first = SECONDS - 1;
        int last = 0;
        for (int report = 0; report < reports.size; report++) {
            if ((set >> report & 1) != 0) {
                first = Math.min(first, reports.from[report]);
                last = Math.max(last, reports.to[report]);
            }
        }
        route.chart(watchNow(), persons, first, last);
        for (int report = 0; report < reports.size; report++) {
            if ((set >> report & 1) != 0 && !(setTaskOf(report) && route.leadsThere())) {
                return false;
            }
        }
        return true;
    }

    private int easeSets(int persons) {
        int top = room.seats - 1;
        int without = easeBelow(persons, top, false, false);
        return (persons >> top & 1) == 0 ? without : without + 2 * easeBelow(persons, top, true, true);
    }

    // How many sets of HANDS the PERSONS below one have, given whether that one and the topmost keep a HAND.
    private int easeBelow(int persons, int person, boolean kept, boolean topKept) {
        int without = kept ? 0 : 1;
        int with = kept ? 1 : 0;
        for (int below = person - 1; below >= 0; below--) {
            boolean may = (persons >> below & 1) != 0 && !(below == 0 && topKept);
            int nowWith = may ? 2 * without : 0;
            without += with;
            with = nowWith;
        }
        return without + with;
    }

    private int easeSet(int persons, int i) {
        int set = 0;
        int rank = i;
        boolean kept = false;
        boolean topKept = false;
        for (int person = room.seats - 1; person >= 0; person--) {
            int without = easeBelow(persons, person, false, topKept);
            boolean top = person == room.seats - 1;
            kept = !kept && rank >= without;
            if (kept) {
                topKept = topKept || top;
                int each = easeBelow(persons, person, true, topKept);
                rank -= without;
                boolean right = rank >= each;
                rank -= right ? each : 0;
                set |= 1 << 2 * person + bit(right);
            }
        }
        return set;
    }

    /** What an IMAGE keeps: all that is told of the room, its persons and things. */
    private static final class Room {
        int seats;
        final int[] light = new int[SECONDS];
        final int[] need = new int[MOST_SEATS];
        final int[] firm = new int[MOST_SEATS];
        final int[] eyes = new int[MOST_SEATS * SECONDS];
        final int[] seems = new int[MOST_HANDS * SECONDS];
        final int[] truly = new int[MOST_HANDS * SECONDS];
        int leads;
        final int[] leadSpot = new int[MOST_LEADS];
        final int[] leadPull = new int[MOST_LEADS];
        final int[] leadFrom = new int[MOST_LEADS];
        final int[] leadTo = new int[MOST_LEADS];
        int things;
        final int[] thingSpot = new int[MOST_THINGS];
        int moves;
        final int[] moveHand = new int[MOST_MOVES];
        final int[] moveThing = new int[MOST_MOVES];
        final int[] moveFrom = new int[MOST_MOVES];
        final int[] moveTo = new int[MOST_MOVES];
        final int[] moveSecond = new int[MOST_MOVES];

        void begin(int newSeats) {
            seats = newSeats;
            Arrays.fill(light, 9);
            Arrays.fill(need, 5);
            Arrays.fill(firm, 0);
            Arrays.fill(eyes, NONE);
            Arrays.fill(seems, NONE);
            Arrays.fill(truly, NONE);
            leads = 0;
            things = 0;
            moves = 0;
        }

        void copyOf(Room other) {
            seats = other.seats;
            copy(other.light, light);
            copy(other.need, need);
            copy(other.firm, firm);
            copy(other.eyes, eyes);
            copy(other.seems, seems);
            copy(other.truly, truly);
            leads = other.leads;
            copy(other.leadSpot, leadSpot);
            copy(other.leadPull, leadPull);
            copy(other.leadFrom, leadFrom);
            copy(other.leadTo, leadTo);
            things = other.things;
            copy(other.thingSpot, thingSpot);
            moves = other.moves;
            copy(other.moveHand, moveHand);
            copy(other.moveThing, moveThing);
            copy(other.moveFrom, moveFrom);
            copy(other.moveTo, moveTo);
            copy(other.moveSecond, moveSecond);
        }

        static void copy(int[] from, int[] to) {
            System.arraycopy(from, 0, to, 0, Math.min(from.length, to.length));
        }

        boolean hasPerson(int person) {
            return person >= 0 && person < seats;
        }

        boolean hasHand(int hand) {
            return hand >= 0 && hand < 2 * seats;
        }

        boolean hasSpot(int spot) {
            return spot >= 0 && spot <= seats;
        }

        boolean hasThing(int thing) {
            return thing >= 0 && thing < things;
        }

        boolean areNeighbours(int one, int other) {
            int apart = Math.abs(one - other);
            return apart == 1 || apart == seats - 1;
        }

        int reachOf(int person) {
            int left = person == 0 ? seats - 1 : person - 1;
            int right = person == seats - 1 ? 0 : person + 1;
            return 1 << person | 1 << left | 1 << right | 1 << seats;
        }

        boolean reachesBoth(int person, int spot, int other) {
            int both = 1 << spot | 1 << other;
            return (reachOf(person) & both) == both;
        }

        int addLead(int spot, int pull, int from, int to) {
            leadSpot[leads] = spot;
            leadPull[leads] = pull;
            leadFrom[leads] = from;
            leadTo[leads] = to;
            return leads++;
        }

        int addThing(int spot) {
            thingSpot[things] = spot;
            return things++;
        }

        int addMove(int hand, int thing, int from, int to, int second) {
            moveHand[moves] = hand;
            moveThing[moves] = thing;
            moveFrom[moves] = from;
            moveTo[moves] = to;
            moveSecond[moves] = second;
            return moves++;
        }

        int leadOn(int person, int second) {
            int found = NONE;
            for (int lead = 0; lead < leads; lead++) {
                boolean pulls = leadFrom[lead] <= second && second <= leadTo[lead] && firm[person] < leadPull[lead];
                if (pulls && (found == NONE || leadFrom[lead] >= leadFrom[found])) {
                    found = lead;
                }
            }
            return found;
        }

        int eyesOf(int person, int second) {
            int lead = leadOn(person, second);
            return lead == NONE ? eyes[person * SECONDS + second] : leadSpot[lead];
        }

        boolean isFree(int hand, int second) {
            return truly[hand * SECONDS + second] == NONE && holdersOf(truly, hand, second) == 0;
        }

        // Who holds a HAND by one of both tellings, what HANDS seem to hold or what they truly hold.
        int holdersOf(int[] held, int hand, int second) {
            int persons = 0;
            for (int other = 0; other < 2 * seats; other++) {
                if (held[other * SECONDS + second] == hand) {
                    persons |= 1 << other / 2;
                }
            }
            return persons;
        }

        int seersOf(int spot, int second) {
            int persons = 0;
            for (int person = 0; person < seats; person++) {
                if (light[second] >= need[person] && eyesOf(person, second) == spot) {
                    persons |= 1 << person;
                }
            }
            return persons;
        }

        // Behind all MOVES up to the SECOND; MOVES stand in the order of their SECONDS.
        int spotOf(int thing, int second) {
            int spot = thingSpot[thing];
            for (int move = 0; move < moves && moveSecond[move] <= second; move++) {
                if (moveThing[move] == thing) {
                    spot = moveTo[move];
                }
            }
            return spot;
        }

        boolean movedAfter(int second) {
            return moves > 0 && moveSecond[moves - 1] > second;
        }

        boolean sawMove(int move, int person) {
            int second = moveSecond[move];
            int spot = eyesOf(person, second);
            return moveHand[move] / 2 != person && light[second] >= need[person]
                    && (spot == moveFrom[move] || spot == moveTo[move]);
        }
    }

    /** CONTROLS, as they come. */
    private static final class Controls {
        int size;
        final int[] kind = new int[MOST_CONTROLS];
        final int[] what = new int[MOST_CONTROLS];
        final int[] value = new int[MOST_CONTROLS];
        final int[] from = new int[MOST_CONTROLS];
        final int[] to = new int[MOST_CONTROLS];
        final int[] cost = new int[MOST_CONTROLS];

        boolean hasSet(int set) {
            return set >= 0 && set < 1 << size;
        }

        int costOf(int set) {
            int sum = 0;
            for (int control = 0; control < size; control++) {
                sum += (set >> control & 1) != 0 ? cost[control] : 0;
            }
            return sum;
        }
    }

    /** Who looks where, can see, and holds which hand, as sets by the SECOND, with CONTROLS in force or none. */
    private static final class Watch {
        final int[] light = new int[SECONDS];
        final int[] able = new int[SECONDS];
        final int[] looking = new int[SECONDS * MOST_SPOTS];
        final int[] pinned = new int[SECONDS];
        final int[] tied = new int[SECONDS];
        final int[] holding = new int[SECONDS];
        final int[] holders = new int[SECONDS * MOST_HANDS];
        final int[] soft = new int[PULLS];

        void watchOver(Room room) {
            Room.copy(room.light, light);
            Arrays.fill(looking, 0);
            Arrays.fill(pinned, 0);
            Arrays.fill(tied, 0);
            Arrays.fill(holding, 0);
            Arrays.fill(holders, 0);
            for (int second = 0; second < SECONDS; second++) {
                able[second] = ableBy(room, light[second]);
                noteEyes(room, second);
                noteHands(room, second);
            }
            for (int pull = 0; pull < PULLS; pull++) {
                soft[pull] = softFor(room, pull);
            }
        }

        static int ableBy(Room room, int light) {
            int persons = 0;
            for (int person = 0; person < room.seats; person++) {
                persons |= light >= room.need[person] ? 1 << person : 0;
            }
            return persons;
        }

        static int softFor(Room room, int pull) {
            int persons = 0;
            for (int person = 0; person < room.seats; person++) {
                persons |= room.firm[person] < pull ? 1 << person : 0;
            }
            return persons;
        }

        void noteEyes(Room room, int second) {
            for (int person = 0; person < room.seats; person++) {
                int spot = room.eyesOf(person, second);
                if (room.hasSpot(spot)) {
                    looking[second * MOST_SPOTS + spot] |= 1 << person;
                }
            }
        }

        void noteHands(Room room, int second) {
            for (int hand = 0; hand < 2 * room.seats; hand++) {
                int held = room.truly[hand * SECONDS + second];
                if (room.hasHand(held)) {
                    holding[second] |= 1 << hand;
                    holders[second * MOST_HANDS + held] |= 1 << hand / 2;
                }
            }
        }

        void copyOf(Watch other) {
            Room.copy(other.light, light);
            Room.copy(other.able, able);
            Room.copy(other.looking, looking);
            Room.copy(other.pinned, pinned);
            Room.copy(other.tied, tied);
            Room.copy(other.holding, holding);
            Room.copy(other.holders, holders);
            Room.copy(other.soft, soft);
        }

        void enforce(Controls controls, int set, Room room) {
            for (int control = 0; control < controls.size; control++) {
                if ((set >> control & 1) != 0) {
                    for (int second = controls.from[control]; second <= controls.to[control]; second++) {
                        enforceIn(second, controls.kind[control], controls.what[control],
                                controls.value[control], room);
                    }
                }
            }
        }

        void enforceIn(int second, int kind, int what, int value, Room room) {
            if (kind == TIES) {
                tied[second] |= 1 << what;
            } else if (kind == LIGHTS) {
                light[second] = Math.max(light[second], value);
                able[second] = ableBy(room, light[second]);
            } else {
                for (int spot = 0; spot < MOST_SPOTS; spot++) {
                    looking[second * MOST_SPOTS + spot] &= ~(1 << what);
                }
                looking[second * MOST_SPOTS + value] |= 1 << what;
                pinned[second] |= 1 << what;
            }
        }

        int seers(int spot, int second) {
            return looking[second * MOST_SPOTS + spot] & able[second];
        }

        int holdersOf(int hand, int second) {
            return holders[second * MOST_HANDS + hand];
        }

        int vouchers(int hand, int second) {
            int person = hand / 2;
            return (holdersOf(hand, second) | seers(person, second)) & ~(1 << person);
        }

        // Whether the HAND holds none and isn't TIED; who holds it is asked apart, as a swap may hide that.
        boolean isLoose(int hand, int second) {
            return ((holding[second] | tied[second]) >> hand & 1) == 0;
        }

        boolean isFree(int hand, int second) {
            return ((holding[second] | tied[second]) >> hand & 1) == 0 && holders[second * MOST_HANDS + hand] == 0;
        }
    }

    /** A THING that is to come to a SPOT within SECONDS. */
    private static final class Task {
        int thing;
        int spot;
        int from;
        int to;
    }

    /** The WAYS of a TEXT, with what it says of memory. */
    private static final class Ways {
        int size;
        final long[] name = new long[MOST_WAYS];
        final int[] steps = new int[MOST_WAYS];
        final int[] time = new int[MOST_WAYS];
        final int[] kind = new int[MOST_WAYS * MOST_STEPS];
        final int[] side = new int[MOST_WAYS * MOST_STEPS];
        final int[] number = new int[MOST_WAYS * MOST_STEPS];
        int loss;
        int smooth;

        void clear() {
            size = 0;
            loss = 0;
            smooth = 0;
        }

        boolean hasWay(int way) {
            return way >= 0 && way < size;
        }

        boolean isNamed(long letters) {
            for (int way = 0; way < size; way++) {
                if (name[way] == letters) {
                    return true;
                }
            }
            return false;
        }

        void addWay(long letters) {
            name[size] = letters;
            steps[size] = 0;
            time[size] = 0;
            size++;
        }

        boolean isLastFull() {
            return size < 1 || steps[size - 1] >= MOST_STEPS;
        }

        void addStep(int stepKind, int stepSide, int stepNumber) {
            int way = size - 1;
            int step = way * MOST_STEPS + steps[way];
            kind[step] = stepKind;
            side[step] = stepSide;
            number[step] = stepNumber;
            steps[way]++;
            if (stepKind == WORD_MOVE || stepKind == WORD_WAIT) {
                time[way] += stepNumber;
            }
        }
    }

    /** THE TAPE, and the TEXT that was last read from it without a FAULT. */
    private static final class Script {
        final int[] tape = new int[MOST_BYTES];
        int taped;
        Ways now = new Ways();
        Ways draft = new Ways();
        final Reader reader = new Reader();
        int fault;
        int faultPlace = NONE;

        void tapeInt(int four) {
            for (int shift = 24; shift >= 0 && taped < MOST_BYTES; shift -= 8) {
                tape[taped] = four >>> shift & 255;
                taped++;
            }
        }

        boolean readTape(int length) {
            boolean sound = reader.read(tape, length, draft);
            fault = sound ? 0 : reader.fault;
            faultPlace = sound ? NONE : reader.place;
            taped = 0;
            if (sound) {
                Ways before = now;
                now = draft;
                draft = before;
            }
            return sound;
        }
    }

    /** Reads a TEXT token by token, up to its first FAULT. */
    private static final class Reader {
        private final int[] bytes = new int[MOST_BYTES];
        private int length;
        private int ahead;
        private int token;
        private int number;
        private long letters;
        int place;
        int fault;

        boolean read(int[] text, int size, Ways into) {
            length = Math.min(size, bytes.length);
            System.arraycopy(text, 0, bytes, 0, length);
            ahead = 0;
            into.clear();
            advance();
            for (int line = 0; token != END && line < MOST_BYTES; line++) {
                boolean sound = token == WORD_WAY ? readWay(into) : token == WORD_MEMORY ? readMemory(into) : fail(2);
                if (!sound) {
                    return false;
                }
            }
            return true;
        }

        private boolean fail(int kind) {
            fault = token == NO_TOKEN ? 1 : kind;
            return false;
        }

        private boolean readWay(Ways into) {
            if (into.size >= MOST_WAYS) {
                return fail(5);
            }
            advance();
            if (token != NAME) {
                return fail(2);
            }
            if (into.isNamed(letters)) {
                return fail(4);
            }
            into.addWay(letters);
            advance();
            for (int step = 0; step <= MOST_STEPS && token != SEMICOLON; step++) {
                if (!readStep(into)) {
                    return false;
                }
            }
            advance();
            return true;
        }

        private boolean readStep(Ways into) {
            int kind = token;
            if (kind < WORD_FREE || kind > WORD_READY) {
                return fail(2);
            }
            if (into.isLastFull()) {
                return fail(5);
            }
            advance();
            int side = 0;
            if (kind == WORD_FREE || kind == WORD_MOVE || kind == WORD_SWAP || kind == WORD_READY) {
                if (token != WORD_LEFT && token != WORD_RIGHT) {
                    return fail(2);
                }
                side = token - WORD_LEFT;
                advance();
            }
            if (kind != WORD_FREE && kind != WORD_AWAY && kind != WORD_SWAP) {
                int low = kind == WORD_DARK ? 0 : 1;
                int high = kind == WORD_DARK || kind == WORD_CALL ? 9 : 20;
                if (!isNumber(low, high)) {
                    return false;
                }
                into.addStep(kind, side, number);
                advance();
            } else {
                into.addStep(kind, side, 0);
            }
            return true;
        }

        private boolean readMemory(Ways into) {
            advance();
            if (!isNumber(0, 20)) {
                return false;
            }
            int loss = number;
            advance();
            if (!isNumber(0, 20)) {
                return false;
            }
            into.loss = loss;
            into.smooth = number;
            advance();
            if (token != SEMICOLON) {
                return fail(2);
            }
            advance();
            return true;
        }

        private boolean isNumber(int low, int high) {
            if (token != NUMBER) {
                return fail(2);
            }
            return number >= low && number <= high || fail(3);
        }

        private void advance() {
            while (ahead < length && (bytes[ahead] == 10 || bytes[ahead] == 32)) {
                ahead++;
            }
            place = ahead;
            if (ahead >= length) {
                token = END;
            } else if (isLetter(bytes[ahead])) {
                advanceWord();
            } else if (isDigit(bytes[ahead])) {
                advanceNumber();
            } else {
                token = bytes[ahead] == ';' ? SEMICOLON : NO_TOKEN;
                ahead++;
            }
        }

        private void advanceWord() {
            letters = 0;
            while (ahead < length && isLetter(bytes[ahead])) {
                letters = letters << 5 | bytes[ahead] - 'a' + 1;
                ahead++;
            }
            token = ahead - place > WORD_SIGNS ? NO_TOKEN : NAME;
            for (int word = 0; word <= WORD_RIGHT && token == NAME; word++) {
                if (isWord(word)) {
                    token = word;
                }
            }
        }

        private boolean isWord(int word) {
            for (int i = 0; i < WORD_SIGNS; i++) {
                int sign = place + i < ahead ? bytes[place + i] : ' ';
                if (WORDS.charAt(word * WORD_SIGNS + i) != sign) {
                    return false;
                }
            }
            return true;
        }

        private void advanceNumber() {
            number = 0;
            while (ahead < length && isDigit(bytes[ahead])) {
                number = 10 * number + bytes[ahead] - '0';
                ahead++;
            }
            token = ahead - place > MOST_DIGITS ? NO_TOKEN : NUMBER;
        }

        private static boolean isLetter(int sign) {
            return sign >= 'a' && sign <= 'z';
        }

        private static boolean isDigit(int sign) {
            return sign >= '0' && sign <= '9';
        }
    }

    /** Tries WAYS for a task, SECOND by SECOND. */
    private static final class Sleight {
        private final Room room;
        private final Task task;
        private Ways ways;
        private Watch watch;
        private int person;
        private int trusted;
        private int lies;
        private int first;
        private int last;
        private int second;
        private int swapped;
        private int called;

        Sleight(Room room, Task task, Ways ways, Watch watch) {
            this.room = room;
            this.task = task;
            this.ways = ways;
            this.watch = watch;
        }

        void aim(Ways newWays, Watch newWatch) {
            ways = newWays;
            watch = newWatch;
        }

        // For each WAY the set of PERSONS for whom it FITS.
        void tell(boolean friend, int[] into) {
            for (int way = 0; way < into.length; way++) {
                into[way] = 0;
                for (int teller = 0; way < ways.size && teller < room.seats; teller++) {
                    boolean fits = firstFit(way, teller, 0) != NONE;
                    for (int other = 0; friend && !fits && other < room.seats; other++) {
                        fits = other != teller && firstFit(way, teller, 1 << other) != NONE;
                    }
                    into[way] |= fits ? 1 << teller : 0;
                }
            }
        }

        boolean anyFits() {
            for (int way = 0; way < ways.size; way++) {
                for (int teller = 0; teller < room.seats; teller++) {
                    if (firstFit(way, teller, 0) != NONE) {
                        return true;
                    }
                }
            }
            return false;
        }

        int firstFit(int way, int teller, int friends) {
            person = teller;
            trusted = friends | 1 << teller;
            int more = Math.max(ways.time[way], 1) - 1;
            for (int start = task.from; start + more <= task.to; start++) {
                first = start;
                last = start + more;
                if (runs(way)) {
                    return start;
                }
            }
            return NONE;
        }

        private boolean runs(int way) {
            lies = room.spotOf(task.thing, first - 1);
            if (lies == task.spot || !room.reachesBoth(person, lies, task.spot)) {
                return false;
            }
            second = first;
            swapped = 0;
            called = 0;
            int step = way * MOST_STEPS;
            for (int i = 0; i < ways.steps[way]; i++) {
                if (!stepRuns(step + i)) {
                    return false;
                }
            }
            return true;
        }

        private boolean stepRuns(int step) {
            int hand = 2 * person + ways.side[step];
            int number = ways.number[step];
            switch (ways.kind[step]) {
                case WORD_FREE:
                    return staysFree(hand);
                case WORD_MOVE:
                    return movesUnseen(hand, number);
                case WORD_WAIT:
                    second += number;
                    return true;
                case WORD_DARK:
                    return second < SECONDS && watch.light[second] <= number;
                case WORD_AWAY:
                    return second < SECONDS && (lookers(person) & ~trusted) == 0;
                case WORD_SWAP:
                    return swaps(hand);
                case WORD_CALL:
                    called = Math.max(called, number);
                    return true;
                default:
                    return wasReady(hand, number);
            }
        }

        private boolean staysFree(int hand) {
            if (second >= SECONDS) {
                return false;
            }
            boolean hidden = (swapped >> (hand & 1) & 1) != 0;
            for (int then = second; then <= Math.max(second, last); then++) {
                if (!watch.isLoose(hand, then) || !hidden && watch.holdersOf(hand, then) != 0) {
                    return false;
                }
            }
            return true;
        }

        private boolean movesUnseen(int hand, int number) {
            boolean hidden = (swapped >> (hand & 1) & 1) != 0;
            for (int i = 0; i < number; i++) {
                if (second >= SECONDS) {
                    return false;
                }
                int holders = hidden ? 0 : watch.holdersOf(hand, second);
                int seers = (lookers(person) | lookers(lies) | lookers(task.spot)) & watch.able[second];
                if (((holders | seers) & ~trusted) != 0) {
                    return false;
                }
                second++;
            }
            return true;
        }

        private boolean swaps(int hand) {
            int side = hand & 1;
            boolean otherHidden = (swapped >> (1 - side) & 1) != 0;
            if (second >= SECONDS || otherHidden || watch.holdersOf(hand ^ 1, second) == 0
                    || (lookers(person) & watch.able[second] & ~trusted) != 0) {
                return false;
            }
            swapped |= 1 << side;
            return true;
        }

        private boolean wasReady(int hand, int number) {
            int earliest = Math.max(first - number, 0);
            for (int then = first - 1; then >= earliest; then--) {
                if ((watch.seers(lies, then) & ~trusted) != 0) {
                    return false;
                }
                if (watch.isFree(hand, then)) {
                    return true;
                }
            }
            return false;
        }

        // Who has EYES at a SPOT in the SECOND that the WAY has come to, its calls heard.
        private int lookers(int spot) {
            int persons = watch.looking[second * MOST_SPOTS + spot];
            int heard = watch.soft[called] & ~watch.pinned[second] & ~(1 << person);
            return spot == room.seats ? persons | heard : persons & ~heard;
        }
    }

    /** REPORTS, as they come. */
    private static final class Reports {
        int size;
        final int[] person = new int[MOST_REPORTS];
        final int[] kind = new int[MOST_REPORTS];
        final int[] what = new int[MOST_REPORTS];
        final int[] spot = new int[MOST_REPORTS];
        final int[] from = new int[MOST_REPORTS];
        final int[] to = new int[MOST_REPORTS];
        final int[] day = new int[MOST_REPORTS];

        boolean has(int report) {
            return report >= 0 && report < size;
        }

        boolean isOfThing(int report) {
            return has(report) && kind[report] == 0;
        }

        boolean isRight(int report, Room room) {
            if (kind[report] == 0) {
                return tellsOfMove(report, room, 0, false);
            }
            int left = 2 * person[report];
            return holdsThroughout(report, left, room) || holdsThroughout(report, left + 1, room);
        }

        boolean isHonest(int report, Room room, Ways ways) {
            if (kind[report] == 0) {
                return tellsOfMove(report, room, ways.loss * day[report], true);
            }
            return longestLapse(report, room) <= ways.smooth * day[report];
        }

        // Whether a MOVE (that its PERSON SAW, if so asked) is as the REPORT says, give or take some SECONDS.
        private boolean tellsOfMove(int report, Room room, int slack, boolean seen) {
            if (!room.hasThing(what[report])) {
                return false;
            }
            for (int move = 0; move < room.moves; move++) {
                int second = room.moveSecond[move];
                boolean such = room.moveThing[move] == what[report] && room.moveTo[move] == spot[report]
                        && second >= from[report] - slack && second <= to[report] + slack;
                if (such && (!seen || room.sawMove(move, person[report]))) {
                    return true;
                }
            }
            return false;
        }

        private boolean holdsThroughout(int report, int hand, Room room) {
            for (int second = from[report]; second <= to[report]; second++) {
                if (room.truly[hand * SECONDS + second] != what[report]) {
                    return false;
                }
            }
            return true;
        }

        private int longestLapse(int report, Room room) {
            int left = 2 * person[report] * SECONDS;
            int right = left + SECONDS;
            int run = 0;
            int longest = 0;
            for (int second = from[report]; second <= to[report]; second++) {
                boolean held = room.seems[left + second] == what[report]
                        || room.seems[right + second] == what[report];
                run = held ? 0 : run + 1;
                longest = Math.max(longest, run);
            }
            return longest;
        }

        boolean doAgree(int a, int b) {
            if (kind[a] != kind[b] || what[a] != what[b]) {
                return false;
            }
            return kind[a] == 1 || spot[a] == spot[b] && from[a] <= to[b] && from[b] <= to[a];
        }
    }

    /** PASSES of a THING from HAND to HAND by a set of PERSONS. */
    private static final class Route {
        private final Room room;
        private final Task task;
        private Watch watch;
        private int persons;
        private final int[] onward = new int[SECONDS * MOST_SPOTS];
        private final int[] soonest = new int[MOST_SPOTS];
        private final int[] sooner = new int[MOST_SPOTS];
        private final int[] latest = new int[MOST_SPOTS * MOST_SPOTS];
        final int[] hops = new int[3 * MOST_SPOTS];

        Route(Room room, Task task, Watch watch) {
            this.room = room;
            this.task = task;
            this.watch = watch;
        }

        // To which SPOTS the set can bring a THING unseen, from each SPOT in each SECOND.
        void chart(Watch newWatch, int set, int from, int to) {
            watch = newWatch;
            persons = set;
            for (int second = from; second <= to; second++) {
                chartSecond(second, openSpots(second));
            }
        }

        private void chartSecond(int second, int open) {
            int row = second * MOST_SPOTS;
            for (int spot = 0; spot < MOST_SPOTS; spot++) {
                onward[row + spot] = 0;
            }
            for (int person = 0; person < room.seats; person++) {
                if (isAble(2 * person, second) || isAble(2 * person + 1, second)) {
                    int reached = room.reachOf(person) & open;
                    for (int spot = 0; spot <= room.seats; spot++) {
                        onward[row + spot] |= (reached >> spot & 1) != 0 ? reached & ~(1 << spot) : 0;
                    }
                }
            }
        }

        private int openSpots(int second) {
            int open = 0;
            for (int spot = 0; spot <= room.seats; spot++) {
                open |= (watch.seers(spot, second) & ~persons) == 0 ? 1 << spot : 0;
            }
            return open;
        }

        private boolean isAble(int hand, int second) {
            return (persons >> hand / 2 & 1) != 0 && watch.isFree(hand, second)
                    && (watch.vouchers(hand, second) & ~persons) == 0;
        }

        // Whether there is a PASS at all.
        boolean leadsThere() {
            int reached = 1 << room.spotOf(task.thing, task.from - 1);
            int goal = 1 << task.spot;
            for (int second = task.from; second <= task.to && (reached & goal) == 0; second++) {
                int before = reached;
                for (int spot = 0; spot <= room.seats; spot++) {
                    reached |= (before >> spot & 1) != 0 ? onward[second * MOST_SPOTS + spot] : 0;
                }
            }
            return (reached & goal) != 0;
        }

        // How many HOPS the SHORTEST has (NONE); these stand in hops then.
        int findShortest() {
            int start = room.spotOf(task.thing, task.from - 1);
            for (int spot = 0; spot < MOST_SPOTS; spot++) {
                soonest[spot] = SECONDS;
            }
            soonest[start] = task.from - 1;
            int count = 0;
            while (count < room.seats && soonest[task.spot] == SECONDS) {
                hopOnce();
                count++;
            }
            if (soonest[task.spot] == SECONDS) {
                return NONE;
            }
            int end = soonest[task.spot];
            findLatest(count, end);
            int second = task.from;
            int spot = start;
            for (int hop = 0; hop < count; hop++) {
                takeFirst(hop, count - hop - 1, spot, second, end);
                second = hops[3 * hop] + 1;
                spot = hops[3 * hop + 2];
            }
            return count;
        }

        // In which SECOND a THING can be at each SPOT with one HOP more than before.
        private void hopOnce() {
            for (int spot = 0; spot < MOST_SPOTS; spot++) {
                sooner[spot] = SECONDS;
            }
            for (int spot = 0; spot <= room.seats; spot++) {
                for (int second = soonest[spot] + 1; second <= task.to; second++) {
                    int reached = onward[second * MOST_SPOTS + spot];
                    for (int other = 0; other < MOST_SPOTS; other++) {
                        if ((reached >> other & 1) != 0) {
                            sooner[other] = Math.min(sooner[other], second);
                        }
                    }
                }
            }
            Room.copy(sooner, soonest);
        }

        // Up to which SECOND the first of so many HOPS to the SPOT may wait, by HOPS and SPOT.
        private void findLatest(int count, int end) {
            for (int spot = 0; spot < MOST_SPOTS; spot++) {
                latest[spot] = spot == task.spot ? SECONDS : NONE;
            }
            for (int left = 1; left < count; left++) {
                for (int spot = 0; spot < MOST_SPOTS; spot++) {
                    int found = NONE;
                    for (int second = end; second >= task.from && found == NONE; second--) {
                        int reached = onward[second * MOST_SPOTS + spot];
                        found = inTime(reached, left - 1, second) == 0 ? NONE : second;
                    }
                    latest[left * MOST_SPOTS + spot] = found;
                }
            }
        }

        // Those of the SPOTS from which so many HOPS, all behind a SECOND, still lead there.
        private int inTime(int spots, int left, int second) {
            int good = 0;
            for (int spot = 0; spot < MOST_SPOTS; spot++) {
                boolean late = latest[left * MOST_SPOTS + spot] <= second;
                good |= late ? 0 : spots & 1 << spot;
            }
            return good;
        }

        private void takeFirst(int hop, int left, int spot, int from, int end) {
            for (int second = from; second <= end; second++) {
                int good = inTime(onward[second * MOST_SPOTS + spot], left, second);
                for (int hand = 0; good != 0 && hand < 2 * room.seats; hand++) {
                    int reach = room.reachOf(hand / 2);
                    int reached = (reach >> spot & 1) != 0 && isAble(hand, second) ? good & reach : 0;
                    if (reached != 0) {
                        hops[3 * hop] = second;
                        hops[3 * hop + 1] = hand;
                        hops[3 * hop + 2] = Integer.numberOfTrailingZeros(reached);
                        return;
                    }
                }
            }
        }
    }

    /** TRIALS, as they come. */
    private static final class Trials {
        int size;
        final int[] answers = new int[MOST_TRIALS];
        final int[] hits = new int[MOST_TRIALS];
        private final long[] rows = new long[MOST_TRIALS + 1];

        // All rows of answers with so many hits or more.
        long rowsWith(int least) {
            rows[0] = 1;
            for (int trial = 0; trial < size; trial++) {
                rows[trial + 1] = 0;
                for (int hit = trial + 1; hit >= 0; hit--) {
                    long onHit = hit > 0 ? rows[hit - 1] * hits[trial] : 0;
                    rows[hit] = rows[hit] * (answers[trial] - hits[trial]) + onHit;
                }
            }
            long sum = 0;
            for (int hit = Math.max(least, 0); hit <= size; hit++) {
                sum += rows[hit];
            }
            return sum;
        }

        int chanceOf(int least) {
            long all = rowsWith(0);
            return all > 0 ? (int) (MILLION * rowsWith(least) / all) : 0;
        }
    }
}
