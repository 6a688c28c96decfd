import java.util.Arrays;

/**
 * A door that turns, the people who go through it, and what would be with
 * another motor, other leaves or another order of them.
 */
public final class TurnDoor {
    public static final int BAD = -1, NOT = -2, FULL = -3, NONE = -4, NULL = -11, CAST = -12, INDEX = -13, SIZE = -14;

    private static final int SECTORS = 12, MOUTH = 3, PARTS = 4, TICKS = 120, CROWD = 12;
    private static final int STREET = 0, HALL = 1, SIDES = 2;
    private static final int LEAVES = 0, OPENING = 1, ROOM = 2, MOTOR = 3, DRAG = 4, GOVERNOR = 5, COLD = 6,
            STUCK = 7, FOLD = 8, SETTINGS = 9;
    private static final int BAGGED = 1, WHEELED = 2, CHILD = 3, HURRIED = 4, DAZED = 5, KINDS = 6;
    private static final int SHEETS = 4, LANES = 3, ITEMS = 16, TAPE = 80, ORDERED = 6, TOLD = 8;
    /** Less warmth lost may be a number below 0, so the refusal lies far below them all. */
    private static final int BAD_LOSS = BAD - 100000;

    private static final int[] LEAST = {3, 1, 1, 0, 1, 1, 0, 1, 0};
    private static final int[] MOST = {4, 3, 6, 20, 9, 3, 9, 9, 120};
    private static final int[] FIRST = {4, 2, 2, 2, 2, 2, 1, 3, 120};
    private static final int[] SIZES = {1, 2, 3, 1, 1, 1};
    private static final int[] PUSHES = {2, 1, 1, 0, 4, 2};

    private final Plan plan = new Plan();
    private final Plan kept = new Plan();
    private final Tape tape = new Tape();
    private final Sheet[] sheets = new Sheet[SHEETS];
    private final Course course = new Course();
    private final Log log = new Log();
    private final Trials trials = new Trials();
    private boolean hasImage;
    private boolean played;

    public TurnDoor() {
        for (int i = 0; i < sheets.length; i++) {
            sheets[i] = new Sheet();
        }
    }

    public int set(int what, int v) {
        if (!isIn(what, SETTINGS) || v < LEAST[what] || v > MOST[what]) {
            return BAD;
        }
        int before = plan.settings[what];
        plan.settings[what] = v;
        forget();
        return before;
    }

    public int share(int part, int side, int turn) {
        if (!isIn(part, plan.settings[LEAVES]) || !isIn(side, SIDES) || !isIn(turn, SECTORS)) {
            return BAD;
        }
        return Drum.sectorsInMouth(plan.settings[LEAVES], part, side, turn);
    }

    public int open(int side, int turn) {
        if (!isIn(side, SIDES) || !isIn(turn, SECTORS)) {
            return BAD;
        }
        return Drum.openParts(plan.settings[LEAVES], plan.settings[OPENING], side, turn);
    }

    public int person(int tick, int side, int kind) {
        if (!isIn(tick, TICKS) || !isIn(side, SIDES) || !isIn(kind, KINDS)) {
            return BAD;
        }
        if (plan.size >= CROWD) {
            return FULL;
        }
        plan.add(tick, side, kind);
        forget();
        return plan.size - 1;
    }

    public int told(int person, int what) {
        if (!plan.has(person)) {
            return BAD;
        }
        switch (what) {
            case 0:
                return plan.ticks[person];
            case 1:
                return plan.sides[person];
            case 2:
                return plan.kinds[person];
            case 3:
                return plan.sizeOf(person);
            case 4:
                return plan.pushOf(person);
            default:
                return BAD;
        }
    }

    public int delay(int person, int tick) {
        if (!plan.has(person) || !isIn(tick, TICKS)) {
            return BAD;
        }
        int before = plan.ticks[person];
        plan.ticks[person] = tick;
        forget();
        return before;
    }

    public int clear() {
        int gone = plan.size;
        plan.size = 0;
        forget();
        return gone;
    }

    public int type(long w, int n) {
        if (n < 1 || n > 8 || !Tape.isPlain(w, n)) {
            return BAD;
        }
        if (tape.length + n > TAPE) {
            return FULL;
        }
        tape.append(w, n);
        return tape.length;
    }

    public int people() {
        int fault = tape.read();
        tape.length = 0;
        if (fault != 0) {
            return fault;
        }
        if (plan.size + tape.found > CROWD) {
            return FULL;
        }
        for (int i = 0; i < tape.found && i < TOLD; i++) {
            plan.add(tape.ticks[i], tape.sides[i], tape.kinds[i]);
        }
        forget();
        return tape.found;
    }

    public int fate(int person, int what) {
        if (!plan.has(person) || !isIn(what, 4)) {
            return BAD;
        }
        play();
        Fates fates = course.fates;
        switch (what) {
            case 0:
                return fates.stepIns[person] < TICKS ? fates.stepIns[person] : NONE;
            case 1:
                return fates.ends[person] < TICKS ? fates.ends[person] : NONE;
            case 2:
                return fates.waitOf(person, plan);
            default:
                return fates.caught >> person & 1;
        }
    }

    public int at(int tick, int what) {
        if (!isIn(tick, TICKS) || !isIn(what, 5)) {
            return BAD;
        }
        play();
        switch (what) {
            case 0:
                return log.turn[tick];
            case 1:
                return log.speed[tick];
            case 2:
                return log.insideAt(tick);
            case 3:
                return log.waiting[tick];
            default:
                return log.stuck[tick];
        }
    }

    public int within(int tick, int part) {
        if (!isIn(tick, TICKS) || !isIn(part, plan.settings[LEAVES])) {
            return BAD;
        }
        play();
        return log.holders[tick * PARTS + part];
    }

    public int all(int what) {
        if (!isIn(what, 7)) {
            return BAD;
        }
        play();
        switch (what) {
            case 0:
                return Integer.bitCount(course.fates.ended);
            case 1:
                return course.fates.lastEnd(plan.size);
            case 2:
                return course.fates.waitsTogether(plan);
            case 3:
                return course.drum.lost;
            case 4:
                return course.drum.steps;
            case 5:
                return Integer.bitCount(course.fates.caught);
            default:
                return course.idle;
        }
    }

    public int count(int what) {
        switch (what) {
            case 0:
                return plan.size;
            case 1:
                return plan.fromStreet();
            default:
                return BAD;
        }
    }

    public int shared(int one, int other) {
        if (!plan.has(one) || !plan.has(other) || one == other) {
            return BAD;
        }
        play();
        return course.fates.company[one] >> other & 1;
    }

    public int motor(int tick) {
        if (!isIn(tick, TICKS)) {
            return BAD;
        }
        return trials.leastMotor(plan, tick);
    }

    public int warmest(int tick, int what) {
        if (!isIn(tick, TICKS) || !isIn(what, 4)) {
            return BAD;
        }
        trials.findDoors(plan);
        int best = trials.warmestDoor(tick);
        if (best < 0) {
            return NONE;
        }
        switch (what) {
            case 0:
                return Trials.leavesOf(best);
            case 1:
                return Trials.openingOf(best);
            case 2:
                return Trials.governorOf(best);
            default:
                return trials.lossOf(best);
        }
    }

    public int orders(int some, int i) {
        if (some <= 0 || some > plan.everyone()) {
            return BAD;
        }
        int n = Integer.bitCount(some);
        if (n > ORDERED || i < -2 || i >= n) {
            return BAD;
        }
        trials.findOrder(plan, some);
        if (i == -1) {
            return trials.order.last;
        }
        if (i == -2) {
            return trials.order.waits;
        }
        return trials.order.best[i];
    }

    public int times(int sheet, int lane, int from, int n, int what) {
        if (!isIn(sheet, SHEETS) || !isIn(lane, LANES) || n < 1 || n > TOLD || !isIn(what, 3)) {
            return BAD;
        }
        Sheet row = sheets[sheet];
        int refusal = row.refusalFor(lane, from, 2 * n);
        if (refusal != 0) {
            return refusal;
        }
        for (int i = from; i < from + 2 * n; i += 2) {
            if (!plan.has(row.get(i)) || !isIn(row.get(i + 1), TICKS + 1)) {
                return NOT;
            }
        }
        trials.findEnds(plan);
        int found = trials.countAgreeing(row, from, n);
        if (what == 0) {
            return found;
        }
        if (found == 0) {
            return NONE;
        }
        return what == 1 ? trials.firstMotor() : trials.firstDrag();
    }

    public int without(int person) {
        if (!plan.has(person)) {
            return BAD_LOSS;
        }
        play();
        return course.drum.lost - trials.lossWithout(plan, person);
    }

    public int image() {
        kept.become(plan);
        hasImage = true;
        return 1;
    }

    public int restore() {
        if (!hasImage) {
            return NONE;
        }
        plan.become(kept);
        forget();
        return 1;
    }

    public int sheet(int sheet, int lane, int n) {
        if (!isIn(sheet, SHEETS) || !isIn(lane, LANES) || n > ITEMS) {
            return BAD;
        }
        if (n < 0) {
            return SIZE;
        }
        sheets[sheet].renew(lane, n);
        return n;
    }

    public int drop(int sheet) {
        if (!isIn(sheet, SHEETS)) {
            return BAD;
        }
        if (!sheets[sheet].isThere()) {
            return NULL;
        }
        return sheets[sheet].leave();
    }

    public int item(int sheet, int lane, int i, int v) {
        if (!isIn(sheet, SHEETS) || !isIn(lane, LANES)) {
            return BAD;
        }
        int refusal = sheets[sheet].refusalFor(lane, i, 1);
        if (refusal != 0) {
            return refusal;
        }
        sheets[sheet].put(i, v);
        return 1;
    }

    public int film(int sheet, int lane, int from) {
        if (!isIn(sheet, SHEETS) || !isIn(lane, LANES)) {
            return BAD;
        }
        int refusal = sheets[sheet].refusalFor(lane, from, plan.size);
        if (refusal != 0) {
            return refusal;
        }
        play();
        for (int p = 0; p < plan.size; p++) {
            sheets[sheet].put(from + p, course.fates.ends[p]);
        }
        return plan.size;
    }

    private static boolean isIn(int number, int bound) {
        return number >= 0 && number < bound;
    }

    /** Whatever was worked out holds for the plan of that time alone. */
    private void forget() {
        played = false;
        trials.forget();
    }

    private void play() {
        if (played) {
            return;
        }
        course.begin(plan, plan.everyone());
        for (int tick = 0; tick < TICKS; tick++) {
            course.pass(tick);
            log.write(tick, course);
        }
        played = true;
    }

    /** Settings and people: all that an image keeps. */
    private static final class Plan {
        private final int[] settings = new int[SETTINGS];
        private final int[] ticks = new int[CROWD];
        private final int[] sides = new int[CROWD];
        private final int[] kinds = new int[CROWD];
        private int size;

        private Plan() {
            System.arraycopy(FIRST, 0, settings, 0, SETTINGS);
        }

        private void become(Plan other) {
            System.arraycopy(other.settings, 0, settings, 0, SETTINGS);
            System.arraycopy(other.ticks, 0, ticks, 0, CROWD);
            System.arraycopy(other.sides, 0, sides, 0, CROWD);
            System.arraycopy(other.kinds, 0, kinds, 0, CROWD);
            size = other.size;
        }

        private void add(int tick, int side, int kind) {
            if (size < CROWD) {
                ticks[size] = tick;
                sides[size] = side;
                kinds[size] = kind;
                size++;
            }
        }

        private boolean has(int person) {
            return isIn(person, size);
        }

        private int everyone() {
            return (1 << size) - 1;
        }

        private int sizeOf(int person) {
            return SIZES[kinds[person]];
        }

        private int pushOf(int person) {
            return PUSHES[kinds[person]];
        }

        private boolean isLaden(int person) {
            return kinds[person] == BAGGED || kinds[person] == WHEELED;
        }

        private int fromStreet() {
            int n = 0;
            for (int p = 0; p < size; p++) {
                if (sides[p] == STREET) {
                    n++;
                }
            }
            return n;
        }
    }

    /** The leaves, where they stand, and who is between them. */
    private static final class Drum {
        private final int[] shares = new int[SIDES * SECTORS * PARTS];
        private final int[] openSets = new int[SIDES * SECTORS];
        private final int[] holders = new int[PARTS];
        private final int[] left = new int[PARTS];
        private final int[] partOf = new int[CROWD];
        private int leaves;
        private int opening;
        private int turn;
        private int inside;
        private int steps;
        private int cold;
        private int lost;

        private static int sectorsInMouth(int leaves, int part, int side, int turn) {
            int span = leaves == 3 ? 4 : 3;
            // the mouths lie half a round apart, so the hall's is the street's, seen from there
            int first = turn + part * span + (side == HALL ? SECTORS / 2 : 0);
            int n = 0;
            for (int k = 0; k < span; k++) {
                if ((first + k) % SECTORS < MOUTH) {
                    n++;
                }
            }
            return n;
        }

        private static int openParts(int leaves, int opening, int side, int turn) {
            int parts = 0;
            for (int part = 0; part < leaves; part++) {
                if (sectorsInMouth(leaves, part, side, turn) >= opening) {
                    parts |= 1 << part;
                }
            }
            return parts;
        }

        private void begin(Plan plan) {
            if (leaves != plan.settings[LEAVES] || opening != plan.settings[OPENING]) {
                leaves = plan.settings[LEAVES];
                opening = plan.settings[OPENING];
                layOut();
            }
            for (int part = 0; part < PARTS; part++) {
                holders[part] = 0;
                left[part] = plan.settings[ROOM];
            }
            turn = 0;
            inside = 0;
            steps = 0;
            cold = plan.settings[COLD];
            lost = 0;
        }

        /** Most runs differ in other things than the leaves, so the shares are counted once for many. */
        private void layOut() {
            for (int i = 0; i < SIDES * SECTORS; i++) {
                openSets[i] = openParts(leaves, opening, i / SECTORS, i % SECTORS);
                for (int part = 0; part < PARTS; part++) {
                    shares[i * PARTS + part] = sectorsInMouth(leaves, part, i / SECTORS, i % SECTORS);
                }
            }
        }

        private int openSet(int side) {
            return openSets[side * SECTORS + turn];
        }

        private int shareAt(int part, int side) {
            return shares[(side * SECTORS + turn) * PARTS + part];
        }

        private void stepOn() {
            turn = turn == SECTORS - 1 ? 0 : turn + 1;
            steps++;
        }

        private void lose(int closed) {
            for (int part = 0; part < PARTS && closed >> part != 0; part++) {
                if ((closed >> part & 1) != 0 && left[part] > 0) {
                    lost += cold * left[part];
                }
            }
        }

        private int holdersOf(int parts) {
            int those = 0;
            for (int part = 0; part < PARTS && parts >> part != 0; part++) {
                if ((parts >> part & 1) != 0) {
                    those |= holders[part];
                }
            }
            return those;
        }

        private void take(int person, int part, int size) {
            holders[part] |= 1 << person;
            left[part] -= size;
            partOf[person] = part;
            inside |= 1 << person;
        }

        private void release(int person, int size) {
            int part = partOf[person];
            holders[part] &= ~(1 << person);
            left[part] += size;
            inside &= ~(1 << person);
        }
    }

    /** What has come of each. What has not happened stands at the tick behind the last. */
    private static final class Fates {
        private final int[] stepIns = new int[CROWD];
        private final int[] queueEnds = new int[CROWD];
        private final int[] ends = new int[CROWD];
        private final int[] company = new int[CROWD];
        private int ended;
        private int caught;

        private void begin() {
            for (int p = 0; p < CROWD; p++) {
                stepIns[p] = TICKS;
                queueEnds[p] = TICKS;
                ends[p] = TICKS;
                company[p] = 0;
            }
            ended = 0;
            caught = 0;
        }

        private void end(int person, int tick) {
            ends[person] = tick;
            ended |= 1 << person;
        }

        private void meet(int person, int others) {
            company[person] |= others;
            for (int p = 0; p < CROWD && others >> p != 0; p++) {
                if ((others >> p & 1) != 0) {
                    company[p] |= 1 << person;
                }
            }
        }

        private int waitOf(int person, Plan plan) {
            return queueEnds[person] - plan.ticks[person];
        }

        private int waitsTogether(Plan plan) {
            int sum = 0;
            for (int p = 0; p < plan.size; p++) {
                sum += waitOf(p, plan);
            }
            return sum;
        }

        private int lastEnd(int size) {
            int last = 0;
            for (int p = 0; p < size && p < CROWD; p++) {
                last = Math.max(last, ends[p]);
            }
            return last;
        }
    }

    /** What goes on from tick to tick. */
    private static final class Course {
        private final Drum drum = new Drum();
        private final Fates fates = new Fates();
        private final int[] queue = new int[CROWD];
        private final int[] comers = new int[TICKS];
        private final int[] ofSide = new int[SIDES];
        private Plan plan = new Plan();
        private int coming;
        private int children;
        private int dazed;
        /** Dazed ones whose part has come to their mouth once. */
        private int wentBy;
        private int waiting;
        private int push;
        private int speed;
        private int stuck;
        private int idle;

        private void begin(Plan given, int who) {
            plan = given;
            coming = who;
            drum.begin(given);
            fates.begin();
            wentBy = 0;
            waiting = 0;
            push = 0;
            speed = 0;
            stuck = 0;
            idle = 0;
            gather();
            lineUp();
        }

        private void gather() {
            children = 0;
            dazed = 0;
            ofSide[STREET] = 0;
            ofSide[HALL] = 0;
            Arrays.fill(comers, 0);
            for (int p = 0; p < plan.size; p++) {
                int one = 1 << p;
                ofSide[plan.sides[p]] |= one;
                comers[plan.ticks[p]] |= one & coming;
                if (plan.kinds[p] == CHILD) {
                    children |= one;
                } else if (plan.kinds[p] == DAZED) {
                    dazed |= one;
                }
            }
        }

        /** Who is ahead of whom never changes in a run, so it is sorted once. */
        private void lineUp() {
            for (int p = 0; p < plan.size; p++) {
                int place = p;
                while (place > 0 && isAhead(p, queue[place - 1])) {
                    queue[place] = queue[place - 1];
                    place--;
                }
                queue[place] = p;
            }
        }

        /** For a person of a greater number than the other: of like ones it is behind. */
        private boolean isAhead(int later, int other) {
            boolean hurried = plan.kinds[later] == HURRIED;
            if (hurried != (plan.kinds[other] == HURRIED)) {
                return hurried;
            }
            return plan.ticks[later] < plan.ticks[other];
        }

        private void run(int last, boolean untilAllEnded) {
            for (int tick = 0; tick <= last && tick < TICKS; tick++) {
                if (untilAllEnded && fates.ended == coming) {
                    return;
                }
                pass(tick);
            }
        }

        private void pass(int tick) {
            waiting |= comers[tick];
            if (tick >= plan.settings[FOLD]) {
                passFolded(tick);
            } else {
                changeSpeed();
                for (int i = 0; i < speed; i++) {
                    step(tick);
                }
                stepIn(STREET, tick);
                stepIn(HALL, tick);
            }
            if (speed == 0 && (drum.inside | waiting) != 0) {
                idle++;
            }
        }

        private void changeSpeed() {
            if (stuck > 0) {
                speed = 0;
                stuck--;
                return;
            }
            int force = push + plan.settings[MOTOR];
            int drag = plan.settings[DRAG];
            if (force >= drag * (speed + 1)) {
                if (speed < plan.settings[GOVERNOR]) {
                    speed++;
                }
            } else if (force < drag * speed) {
                speed--;
            }
        }

        private void step(int tick) {
            int street = drum.openSet(STREET);
            int hall = drum.openSet(HALL);
            drum.stepOn();
            if (drum.inside != 0) {
                letOut(STREET, drum.openSet(STREET) & ~street, tick);
                letOut(HALL, drum.openSet(HALL) & ~hall, tick);
            }
            // behind those who step out: what they leave empty is lost, too
            drum.lose(street & ~drum.openSet(STREET));
        }

        /** No part is open at both sides, so they step out as one opens or not at all as long as it is open. */
        private void letOut(int side, int opened, int tick) {
            if (opened == 0) {
                return;
            }
            int there = drum.holdersOf(opened) & ofSide[1 - side];
            int goOn = there & dazed & ~wentBy;
            wentBy |= goOn;
            endInside(there & ~goOn, tick);
        }

        private void endInside(int those, int tick) {
            for (int p = 0; p < plan.size && those >> p != 0; p++) {
                if ((those >> p & 1) != 0) {
                    drum.release(p, plan.sizeOf(p));
                    push -= plan.pushOf(p);
                    fates.end(p, tick);
                }
            }
        }

        private void stepIn(int side, int tick) {
            int those = waiting & ofSide[side];
            for (int i = 0; i < plan.size && those != 0; i++) {
                int p = queue[i];
                if ((those >> p & 1) != 0) {
                    int part = partFor(p, side);
                    if (part < 0) {
                        return;
                    }
                    enter(p, part, tick);
                    those &= ~(1 << p);
                }
            }
        }

        private int partFor(int person, int side) {
            if (speed >= 2 && plan.isLaden(person)) {
                return -1;
            }
            int size = plan.sizeOf(person);
            boolean child = plan.kinds[person] == CHILD;
            int best = -1;
            int bestShare = drum.opening - 1;
            for (int part = 0; part < drum.leaves && part < PARTS; part++) {
                int share = drum.shareAt(part, side);
                if (share > bestShare && drum.left[part] >= size
                        && (!child || (drum.holders[part] & ~children) != 0)) {
                    best = part;
                    bestShare = share;
                }
            }
            return best;
        }

        private void enter(int person, int part, int tick) {
            fates.meet(person, drum.holders[part]);
            fates.stepIns[person] = tick;
            fates.queueEnds[person] = tick;
            waiting &= ~(1 << person);
            drum.take(person, part, plan.sizeOf(person));
            push += plan.pushOf(person);
            if (speed == 1 && plan.isLaden(person) && drum.shareAt(part, plan.sides[person]) == drum.opening) {
                fates.caught |= 1 << person;
                stuck = plan.settings[STUCK];
            }
        }

        private void passFolded(int tick) {
            speed = 0;
            stuck = 0;
            endInside(drum.inside, tick);
            walkThrough(STREET, tick);
            walkThrough(HALL, tick);
        }

        private void walkThrough(int side, int tick) {
            int those = waiting & ofSide[side];
            int gone = 0;
            for (int i = 0; i < plan.size && gone < 2 && those != 0; i++) {
                int p = queue[i];
                if ((those >> p & 1) != 0) {
                    those &= ~(1 << p);
                    waiting &= ~(1 << p);
                    fates.queueEnds[p] = tick;
                    fates.end(p, tick);
                    gone++;
                }
            }
        }
    }

    /** How things stood behind each tick. */
    private static final class Log {
        private final int[] turn = new int[TICKS];
        private final int[] speed = new int[TICKS];
        private final int[] waiting = new int[TICKS];
        private final int[] stuck = new int[TICKS];
        private final int[] holders = new int[TICKS * PARTS];

        private void write(int tick, Course course) {
            turn[tick] = course.drum.turn;
            speed[tick] = course.speed;
            waiting[tick] = course.waiting;
            stuck[tick] = course.stuck;
            for (int part = 0; part < PARTS; part++) {
                holders[tick * PARTS + part] = course.drum.holders[part];
            }
        }

        private int insideAt(int tick) {
            int those = 0;
            for (int part = 0; part < PARTS; part++) {
                those |= holders[tick * PARTS + part];
            }
            return those;
        }
    }

    /** What would be. Each answer is worked out once for a plan and holds until forget. */
    private static final class Trials {
        private static final int MOTORS = 21, DRAGS = 9, DOORS = 18;

        private final Plan trial = new Plan();
        private final Course course = new Course();
        private final Order order = new Order();
        private final int[] motorLasts = new int[MOTORS];
        private final int[] doorLasts = new int[DOORS];
        private final int[] doorLosses = new int[DOORS];
        private final int[] ends = new int[MOTORS * DRAGS * CROWD];
        private int motorsKnown;
        private boolean doorsKnown;
        private boolean endsKnown;
        private int firstAgreeing;

        private void forget() {
            motorsKnown = 0;
            doorsKnown = false;
            endsKnown = false;
            order.some = 0;
        }

        private int leastMotor(Plan plan, int tick) {
            for (int m = 0; m < MOTORS; m++) {
                if (m >= motorsKnown) {
                    trial.become(plan);
                    trial.settings[MOTOR] = m;
                    course.begin(trial, trial.everyone());
                    course.run(TICKS - 1, true);
                    motorLasts[m] = course.fates.lastEnd(trial.size);
                    motorsKnown = m + 1;
                }
                if (motorLasts[m] <= tick) {
                    return m;
                }
            }
            return NONE;
        }

        private static int leavesOf(int door) {
            return 3 + door / 9;
        }

        private static int openingOf(int door) {
            return 1 + door / 3 % 3;
        }

        private static int governorOf(int door) {
            return 1 + door % 3;
        }

        private int lossOf(int door) {
            return isIn(door, DOORS) ? doorLosses[door] : 0;
        }

        private int warmestDoor(int tick) {
            int best = -1;
            for (int door = 0; door < DOORS; door++) {
                if (doorLasts[door] <= tick && (best < 0 || doorLosses[door] < doorLosses[best])) {
                    best = door;
                }
            }
            return best;
        }

        private void findDoors(Plan plan) {
            if (doorsKnown) {
                return;
            }
            trial.become(plan);
            for (int door = 0; door < DOORS; door++) {
                trial.settings[LEAVES] = leavesOf(door);
                trial.settings[OPENING] = openingOf(door);
                trial.settings[GOVERNOR] = governorOf(door);
                course.begin(trial, trial.everyone());
                course.run(TICKS - 1, false);
                doorLasts[door] = course.fates.lastEnd(trial.size);
                doorLosses[door] = course.drum.lost;
            }
            doorsKnown = true;
        }

        private int lossWithout(Plan plan, int person) {
            course.begin(plan, plan.everyone() & ~(1 << person));
            course.run(TICKS - 1, false);
            return course.drum.lost;
        }

        private void findEnds(Plan plan) {
            if (endsKnown) {
                return;
            }
            trial.become(plan);
            for (int pair = 0; pair < MOTORS * DRAGS; pair++) {
                trial.settings[MOTOR] = pair / DRAGS;
                trial.settings[DRAG] = 1 + pair % DRAGS;
                course.begin(trial, trial.everyone());
                course.run(TICKS - 1, true);
                for (int p = 0; p < trial.size; p++) {
                    ends[pair * CROWD + p] = course.fates.ends[p];
                }
            }
            endsKnown = true;
        }

        private int countAgreeing(Sheet row, int from, int n) {
            int found = 0;
            for (int pair = 0; pair < MOTORS * DRAGS; pair++) {
                if (agrees(pair, row, from, n)) {
                    if (found == 0) {
                        firstAgreeing = pair;
                    }
                    found++;
                }
            }
            return found;
        }

        private boolean agrees(int pair, Sheet row, int from, int n) {
            for (int i = from; i < from + 2 * n; i += 2) {
                int person = row.get(i);
                if (!isIn(person, CROWD) || ends[pair * CROWD + person] != row.get(i + 1)) {
                    return false;
                }
            }
            return true;
        }

        private int firstMotor() {
            return firstAgreeing / DRAGS;
        }

        private int firstDrag() {
            return 1 + firstAgreeing % DRAGS;
        }

        private void findOrder(Plan plan, int some) {
            if (order.some == some) {
                return;
            }
            trial.become(plan);
            order.begin(plan, some);
            // 6 people stand in 720 orders at most
            for (int i = 0; i < 720; i++) {
                if (order.isNew()) {
                    order.deal(trial);
                    course.begin(trial, trial.everyone());
                    course.run(order.last, true);
                    order.weigh(course.fates, trial);
                }
                if (!order.next()) {
                    return;
                }
            }
        }
    }

    /** The orders of some people, one behind the other as rows, and the best so far. */
    private static final class Order {
        private final int[] row = new int[ORDERED];
        private final int[] best = new int[ORDERED];
        private final int[] ticks = new int[ORDERED];
        private int n;
        private int some;
        private int last;
        private int waits;

        private void begin(Plan plan, int those) {
            some = those;
            last = TICKS;
            waits = Integer.MAX_VALUE;
            n = 0;
            for (int p = 0; p < plan.size && n < ORDERED; p++) {
                if ((those >> p & 1) != 0) {
                    row[n] = p;
                    insertTick(plan.ticks[p], n);
                    n++;
                }
            }
        }

        private void insertTick(int tick, int end) {
            int place = end;
            while (place > 0 && ticks[place - 1] > tick) {
                ticks[place] = ticks[place - 1];
                place--;
            }
            ticks[place] = tick;
        }

        /** Two who change places at one tick make no other run, and the row with the lesser number first came before. */
        private boolean isNew() {
            for (int i = 1; i < n; i++) {
                if (ticks[i - 1] == ticks[i] && row[i - 1] > row[i]) {
                    return false;
                }
            }
            return true;
        }

        private void deal(Plan trial) {
            for (int i = 0; i < n; i++) {
                trial.ticks[row[i]] = ticks[i];
            }
        }

        /** A run is cut off behind the best end so far: one that has not ended by then is worse. */
        private void weigh(Fates fates, Plan trial) {
            int end = fates.lastEnd(trial.size);
            if (end > last) {
                return;
            }
            int sum = fates.waitsTogether(trial);
            if (end < last || sum < waits) {
                last = end;
                waits = sum;
                System.arraycopy(row, 0, best, 0, ORDERED);
            }
        }

        /** The next row in rising order; false behind the last. */
        private boolean next() {
            int fall = n - 2;
            while (fall >= 0 && row[fall] > row[fall + 1]) {
                fall--;
            }
            if (fall < 0) {
                return false;
            }
            int swap = n - 1;
            while (swap > fall && row[swap] < row[fall]) {
                swap--;
            }
            exchange(fall, swap);
            for (int i = fall + 1, j = n - 1; i < j; i++, j--) {
                exchange(i, j);
            }
            return true;
        }

        private void exchange(int i, int j) {
            int held = row[i];
            row[i] = row[j];
            row[j] = held;
        }
    }

    /** Bytes to be read as people. */
    private static final class Tape {
        private static final String LETTERS = "wbtchd";

        private final int[] bytes = new int[TAPE];
        private final int[] ticks = new int[TOLD];
        private final int[] sides = new int[TOLD];
        private final int[] kinds = new int[TOLD];
        private int length;
        private int found;
        private int place;

        private static int byteOf(long w, int i) {
            return (int) (w >> 8 * i) & 255;
        }

        private static boolean isPlain(long w, int n) {
            for (int i = 0; i < n; i++) {
                int b = byteOf(w, i);
                if (b < 32 || b > 126) {
                    return false;
                }
            }
            return true;
        }

        private void append(long w, int n) {
            for (int i = n - 1; i >= 0 && length < TAPE; i--) {
                bytes[length] = byteOf(w, i);
                length++;
            }
        }

        /** 0, or the fault; what is found holds only without one. */
        private int read() {
            place = 0;
            found = 0;
            for (int i = 0; i < TOLD; i++) {
                if (!readTick() || !readSide() || !readKind()) {
                    return faultHere();
                }
                found++;
                skipBlanks();
                if (place == length) {
                    return 0;
                }
                if (bytes[place] != ';' || found == TOLD) {
                    return faultHere();
                }
                place++;
            }
            return faultHere();
        }

        private int faultHere() {
            return -20 - place;
        }

        private void skipBlanks() {
            while (place < length && bytes[place] == ' ') {
                place++;
            }
        }

        private int byteHere() {
            return place < length ? bytes[place] : -1;
        }

        /** A number that may not be leaves the place at its first byte. */
        private boolean readTick() {
            skipBlanks();
            int first = place;
            int number = 0;
            while (place < length && bytes[place] >= '0' && bytes[place] <= '9') {
                // no digits that follow make a number fit that once was too great
                number = Math.min(TICKS, number * 10 + bytes[place] - '0');
                place++;
            }
            if (place == first || number >= TICKS) {
                place = first;
                return false;
            }
            ticks[found] = number;
            return true;
        }

        private boolean readSide() {
            skipBlanks();
            int b = byteHere();
            if (b != 's' && b != 'h') {
                return false;
            }
            sides[found] = b == 's' ? STREET : HALL;
            place++;
            return true;
        }

        private boolean readKind() {
            skipBlanks();
            int b = byteHere();
            int kind = b < 0 ? -1 : LETTERS.indexOf((char) b);
            if (kind < 0) {
                return false;
            }
            kinds[found] = kind;
            place++;
            return true;
        }
    }

    /** Nothing, or a row of a lane. */
    private static final class Sheet {
        private static final int NOTHING = -1;

        private final int[] items = new int[ITEMS];
        private int lane = NOTHING;
        private int length;

        private boolean isThere() {
            return lane != NOTHING;
        }

        private void renew(int newLane, int n) {
            lane = newLane;
            length = n;
            for (int i = 0; i < ITEMS; i++) {
                items[i] = 0;
            }
        }

        private int leave() {
            lane = NOTHING;
            return length;
        }

        /** 0, or why n items from one on can't be had of it as a row of a lane. */
        private int refusalFor(int asLane, int from, int n) {
            if (!isThere()) {
                return NULL;
            }
            if (lane != asLane) {
                return CAST;
            }
            return from < 0 || from > length - n ? INDEX : 0;
        }

        private int get(int i) {
            return isIn(i, length) ? items[i] : 0;
        }

        private void put(int i, int v) {
            if (isIn(i, length)) {
                items[i] = lane == 0 ? (byte) v : lane == 1 ? (short) v : v;
            }
        }
    }
}
