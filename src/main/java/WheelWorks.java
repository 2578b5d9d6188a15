import java.util.ArrayList;

public final class WheelWorks {
    public static final int NONE = -1;
    public static final int SCRAPPED = -2;
    public static final int TRAIN = 0, COACH = 1, BOGIE = 2, WHEELSET = 3, MOTOR = 4;

    private static final int MOST_PARTS = 60;
    private static final int MOST_MELT = 9;
    private static final int MOST_MOD = 3;
    private static final int MOST_LIMIT = 99999;
    private static final int MOST_KILOMETRES = 2000;
    private static final int MOST_SEASON = 3;
    private static final int MOST_ERROR = 5;
    private static final int MOST_WAIVED = 999;
    private static final int MOST_FLAW = 99;
    private static final int MOST_TIME = 99;

    private static final int NEW_DIAMETER = 9000;
    private static final int LEAST_DIAMETER = 8500;
    private static final int KILOMETRES_A_TREAD = 100;
    private static final int NEW_FLANGE = 300;
    private static final int LEAST_FLANGE = 250;
    private static final int UNITS_A_FLANGE = 200;
    private static final int APART_IN_BOGIE = 20;
    private static final int APART_IN_COACH = 60;

    private static final int KILOMETRES_A_GROWTH = 500;
    private static final int BREAKS_FROM = 100;
    private static final int SOUND_FINDS_FROM = 10;
    private static final int MAGNETS_FIND_FROM = 3;

    private static final int EMPTY_PLACE = 1, QUARANTINED = 2, RECALLED = 3, BEYOND_LIFE = 4,
        WORN = 5, APART = 6, EXAMINATION_DUE = 7;

    private static final int ROADS = 3;
    private static final int ROAD_LENGTH = 4;
    private static final int MOST_WAITING = 8;

    private final ArrayList<Part> parts = new ArrayList<>();
    private final KindLimits[] kinds = new KindLimits[MOTOR + 1];
    private final Log log = new Log();
    private final Yard yard = new Yard();

    public WheelWorks() {
        for (int kind = 0; kind < kinds.length; kind++) {
            kinds[kind] = new KindLimits();
        }
    }

    // ---- parts

    public int part(int kind, int melt, int mod) throws IllegalArgumentException, IllegalStateException {
        KindLimits limits = limitsOf(kind);
        if (isOutside(melt, 0, MOST_MELT) || isOutside(mod, 0, MOST_MOD)) {
            throw new IllegalArgumentException("melt or mod out of range");
        }
        int number = parts.size();
        if (number >= MOST_PARTS) {
            throw new IllegalStateException("no more parts");
        }
        parts.add(new Part(number, kind, melt, mod, limits));
        return number;
    }

    public int limits(int kind, int life, int interval, int window) throws IllegalArgumentException {
        KindLimits limits = limitsOf(kind);
        if (isOutside(life, 0, MOST_LIMIT) || isOutside(interval, 0, MOST_LIMIT) || isOutside(window, 0, MOST_LIMIT)) {
            throw new IllegalArgumentException("life, interval or window out of range");
        }
        int before = limits.life;
        limits.life = life;
        limits.interval = interval;
        limits.window = window;
        return before;
    }

    public int fit(int part, int host)
            throws IndexOutOfBoundsException, IllegalArgumentException, IllegalStateException {
        Part fitted = existing(part);
        Part into = existing(host);
        int places = placesFor(into.kind, fitted.kind);
        if (places == 0) {
            throw new IllegalArgumentException("no place for such a part");
        }
        if (!fitted.isInStore() || fitted.quarantined) {
            throw new IllegalStateException("the part cannot be fitted");
        }
        if (into.scrapped || into.isBound() || inside(into, fitted.kind) >= places) {
            throw new IllegalStateException("the host cannot be fitted to");
        }
        if (Math.abs(fitted.mod - into.mod) > 1) {
            throw new IllegalStateException("the mods are too far apart");
        }
        fitted.host = into;
        log.addMove(part, host);
        into.top().released = false;
        return inside(into);
    }

    public int take(int part) throws IndexOutOfBoundsException, IllegalStateException {
        Part taken = existing(part);
        Part from = taken.host;
        if (from == null || taken.isBound()) {
            throw new IllegalStateException("in no host, or bound");
        }
        from.top().released = false;
        taken.host = null;
        log.addMove(part, NONE);
        return from.number;
    }

    public void scrap(int part) throws IndexOutOfBoundsException, IllegalStateException {
        Part scrap = existing(part);
        if (!scrap.isInStore() || inside(scrap) > 0) {
            throw new IllegalStateException("not in the store, or not empty");
        }
        if (scrap.isBound() || yard.isWaiting(scrap)) {
            throw new IllegalStateException("bound, or waits for the night");
        }
        scrap.scrapped = true;
        log.addMove(part, SCRAPPED);
    }

    // ---- runs, work

    public int run(int train, int kilometres, int season)
            throws IndexOutOfBoundsException, IllegalArgumentException, IllegalStateException {
        Part running = existingTrain(train);
        checkRun(kilometres, season);
        if (!running.released || running.isBound()) {
            throw new IllegalStateException("not released, or bound");
        }
        running.released = false;
        log.addRun(train, kilometres);
        int broken = NONE;
        for (int i = 0; i < parts.size(); i++) {
            Part part = parts.get(i);
            if (part.top() == running) {
                part.runs(kilometres, kilometres * rubbing(season));
                if (broken == NONE && part.flaw >= BREAKS_FROM) {
                    broken = i;
                }
            }
        }
        if (broken != NONE) {
            quarantineTree(running);
        }
        return broken;
    }

    public int turn(int bogie) throws IndexOutOfBoundsException, IllegalArgumentException, IllegalStateException {
        Part turned = existing(bogie);
        if (turned.kind != BOGIE) {
            throw new IllegalArgumentException("no bogie");
        }
        Wheel one = wheelIn(turned, 0);
        Wheel other = wheelIn(turned, 1);
        if (one == null || other == null || turned.isBound()) {
            throw new IllegalStateException("not both wheelsets, or bound");
        }
        int before = one.diameter + other.diameter;
        one.renewFlange();
        other.renewFlange();
        int lesser = Math.min(one.diameter, other.diameter);
        one.diameter = lesser;
        other.diameter = lesser;
        return before - 2 * lesser;
    }

    public int gate(int wheelset, int error) throws IndexOutOfBoundsException, IllegalArgumentException {
        Wheel wheel = existingWheel(wheelset);
        if (isOutside(error, -MOST_ERROR, MOST_ERROR)) {
            throw new IllegalArgumentException("error out of range");
        }
        wheel.told = wheel.flange + error;
        return wheel.told;
    }

    public int examine(int part) throws IndexOutOfBoundsException, IllegalStateException {
        Part examined = existing(part);
        if (!examined.mayBeExamined() || examined.scrapped || examined.isBound()) {
            throw new IllegalStateException("no examination is possible");
        }
        int since = examined.sinceExamination;
        examined.sinceExamination = 0;
        examined.waived = 0;
        return since;
    }

    public void waive(int part, int kilometres)
            throws IndexOutOfBoundsException, IllegalArgumentException, IllegalStateException {
        Part eased = existing(part);
        if (isOutside(kilometres, 1, MOST_WAIVED)) {
            throw new IllegalArgumentException("kilometres out of range");
        }
        if (eased.limits.interval == 0 || eased.waived > 0) {
            throw new IllegalStateException("nothing can be waived");
        }
        eased.waived = kilometres;
    }

    public int flaw(int part, int size) throws IndexOutOfBoundsException, IllegalArgumentException {
        Part flawed = existing(part);
        if (flawed.kind != WHEELSET && flawed.kind != MOTOR) {
            throw new IllegalArgumentException("neither wheelset nor motor");
        }
        if (isOutside(size, 1, MOST_FLAW)) {
            throw new IllegalArgumentException("size out of range");
        }
        int before = flawed.flaw;
        flawed.flaw = size;
        flawed.lifeAtFlaw = flawed.life;
        return before;
    }

    public int look(int part, boolean byMagnet) throws IndexOutOfBoundsException, IllegalStateException {
        Part looked = existing(part);
        if (looked.scrapped || looked.isBound() || byMagnet && !looked.isInStore()) {
            throw new IllegalStateException("cannot be looked at");
        }
        if (looked.flaw >= (byMagnet ? MAGNETS_FIND_FROM : SOUND_FINDS_FROM)) {
            looked.quarantined = true;
            looked.top().released = false;
            return looked.flaw;
        }
        if (byMagnet) {
            looked.recalled = false;
        }
        return 0;
    }

    public int clear(int part) throws IndexOutOfBoundsException, IllegalStateException {
        Part cleared = existing(part);
        if (!cleared.quarantined || cleared.isBound()) {
            throw new IllegalStateException("not quarantined, or bound");
        }
        int flaw = cleared.flaw;
        cleared.flaw = 0;
        cleared.quarantined = false;
        return flaw;
    }

    public int recall(int melt) throws IllegalArgumentException {
        if (isOutside(melt, 0, MOST_MELT)) {
            throw new IllegalArgumentException("melt out of range");
        }
        int recalled = 0;
        for (int i = 0; i < parts.size(); i++) {
            Part part = parts.get(i);
            if (part.melt == melt && !part.scrapped && !part.recalled) {
                part.recalled = true;
                part.top().released = false;
                recalled++;
            }
        }
        return recalled;
    }

    public int release(int train) throws IndexOutOfBoundsException, IllegalArgumentException {
        Part released = existingTrain(train);
        int bar = firstBar(released);
        released.released = bar == 0;
        return bar;
    }

    // ---- roads

    public int comes(int train, int time)
            throws IndexOutOfBoundsException, IllegalArgumentException, IllegalStateException {
        Part coming = existingTrain(train);
        if (isOutside(time, 0, MOST_TIME)) {
            throw new IllegalArgumentException("time out of range");
        }
        if (yard.waiting.size() >= MOST_WAITING || yard.isTaken(time) || yard.isWaiting(coming)) {
            throw new IllegalStateException("no room to wait, or waits");
        }
        if (coming.isBound() || coming.scrapped) {
            throw new IllegalStateException("stands on a road, or is scrapped");
        }
        coming.time = time;
        yard.waiting.add(coming);
        return yard.waiting.size();
    }

    public int night() throws IllegalStateException {
        if (yard.waiting.isEmpty() || !yard.standing.isEmpty()) {
            throw new IllegalStateException("none waits, or one stands on a road");
        }
        return yard.park();
    }

    public int out() throws IllegalStateException {
        if (yard.standing.isEmpty()) {
            throw new IllegalStateException("none stands on a road");
        }
        return yard.sendFirst();
    }

    // ---- what there is; nothing from here on changes anything

    public int host(int part) throws IndexOutOfBoundsException {
        return existing(part).whereabouts();
    }

    public int head(int part) throws IndexOutOfBoundsException {
        return existing(part).top().number;
    }

    public int ofPart(int part, int what) throws IndexOutOfBoundsException, IllegalArgumentException {
        Part told = existing(part);
        switch (what) {
            case 0: return told.kind;
            case 1: return told.melt;
            case 2: return told.mod;
            case 3: return told.life;
            case 4: return told.sinceExamination;
            case 5: return told.waived;
            case 6: return told.quarantined ? 1 : 0;
            case 7: return told.recalled ? 1 : 0;
            case 8: return log.movesOf(part);
            default: throw new IllegalArgumentException("no such thing to tell of a part");
        }
    }

    public int trace(int part, int move) throws IndexOutOfBoundsException {
        Part moved = existing(part);
        Event event = log.moveOf(moved.number, move);
        if (event == null) {
            throw new IndexOutOfBoundsException("no such move");
        }
        return event.to;
    }

    public int lifeAnew(int part) throws IndexOutOfBoundsException {
        return log.lifeOf(existing(part).number);
    }

    public int wheel(int wheelset, int what) throws IndexOutOfBoundsException, IllegalArgumentException {
        Wheel wheel = existingWheel(wheelset);
        switch (what) {
            case 0: return wheel.diameter;
            case 1: return wheel.flange;
            case 2: return wheel.told;
            default: throw new IllegalArgumentException("no such thing to tell of a wheelset");
        }
    }

    public int foretell(int wheelset, int kilometres, int season)
            throws IndexOutOfBoundsException, IllegalArgumentException {
        Wheel wheel = existingWheel(wheelset);
        checkRun(kilometres, season);
        if (wheel.told == NONE) {
            return NONE;
        }
        int above = Math.max(0, wheel.told - LEAST_FLANGE);
        return above * UNITS_A_FLANGE / (kilometres * rubbing(season));
    }

    public int bars(int train) throws IndexOutOfBoundsException, IllegalArgumentException {
        return firstBar(existingTrain(train));
    }

    public int barredBy(int train) throws IndexOutOfBoundsException, IllegalArgumentException {
        Part barred = existingTrain(train);
        return lowestBarring(barred, firstBar(barred));
    }

    public boolean isReleased(int train) throws IndexOutOfBoundsException, IllegalArgumentException {
        return existingTrain(train).released;
    }

    public int plan() {
        return yard.makePlan();
    }

    public int planAnew() {
        return yard.makePlanAnew();
    }

    public int road(int road, int place) throws IndexOutOfBoundsException {
        if (isOutside(road, 0, ROADS - 1) || place < 0) {
            throw new IndexOutOfBoundsException("no such road or place");
        }
        return yard.trainOn(road, place);
    }

    // ---- arguments

    private static boolean isOutside(int value, int least, int most) {
        return value < least || value > most;
    }

    private static void checkRun(int kilometres, int season) {
        if (isOutside(kilometres, 1, MOST_KILOMETRES) || isOutside(season, 0, MOST_SEASON)) {
            throw new IllegalArgumentException("kilometres or season out of range");
        }
    }

    private KindLimits limitsOf(int kind) {
        if (kind < 0 || kind >= kinds.length) {
            throw new IllegalArgumentException("no such kind");
        }
        return kinds[kind];
    }

    private Part existing(int number) {
        if (number < 0 || number >= parts.size()) {
            throw new IndexOutOfBoundsException("no such part");
        }
        return parts.get(number);
    }

    private Part existingTrain(int number) {
        Part train = existing(number);
        if (train.kind != TRAIN) {
            throw new IllegalArgumentException("no train");
        }
        return train;
    }

    private Wheel existingWheel(int number) {
        Wheel wheel = existing(number).wheel;
        if (wheel == null) {
            throw new IllegalArgumentException("no wheelset");
        }
        return wheel;
    }

    // ---- trees

    private static int placesFor(int hostKind, int partKind) {
        switch (hostKind) {
            case TRAIN: return partKind == COACH ? 2 : 0;
            case COACH: return partKind == BOGIE ? 2 : 0;
            case BOGIE: return partKind == WHEELSET ? 2 : partKind == MOTOR ? 1 : 0;
            default: return 0;
        }
    }

    private int inside(Part host, int kind) {
        int found = 0;
        for (int i = 0; i < parts.size(); i++) {
            Part part = parts.get(i);
            if (part.host == host && part.kind == kind) {
                found++;
            }
        }
        return found;
    }

    private int inside(Part host) {
        int found = 0;
        for (int kind = TRAIN; kind <= MOTOR; kind++) {
            found += inside(host, kind);
        }
        return found;
    }

    /** Answers null if the bogie has not so many wheelsets. */
    private Wheel wheelIn(Part bogie, int index) {
        int passed = 0;
        for (int i = 0; i < parts.size(); i++) {
            Part part = parts.get(i);
            if (part.host == bogie && part.wheel != null) {
                if (passed == index) {
                    return part.wheel;
                }
                passed++;
            }
        }
        return null;
    }

    private void quarantineTree(Part top) {
        for (int i = 0; i < parts.size(); i++) {
            Part part = parts.get(i);
            if (part.top() == top) {
                part.quarantined = true;
            }
        }
    }

    private static int rubbing(int season) {
        switch (season) {
            case 0: return 1;
            case 2: return 3;
            default: return 2;
        }
    }

    // ---- bars

    private int firstBar(Part train) {
        for (int bar = EMPTY_PLACE; bar <= EXAMINATION_DUE; bar++) {
            if (lowestBarring(train, bar) != NONE) {
                return bar;
            }
        }
        return 0;
    }

    private int lowestBarring(Part train, int bar) {
        for (int i = 0; i < parts.size(); i++) {
            Part part = parts.get(i);
            if (part.top() == train && isSo(part, bar)) {
                return i;
            }
        }
        return NONE;
    }

    private boolean isSo(Part part, int bar) {
        switch (bar) {
            case EMPTY_PLACE: return hasEmptyPlace(part);
            case QUARANTINED: return part.quarantined;
            case RECALLED: return part.recalled;
            case BEYOND_LIFE: return part.limits.life > 0 && part.life > part.limits.life;
            case WORN: return part.wheel != null && part.wheel.isWorn();
            case APART: return isApart(part);
            case EXAMINATION_DUE: return part.isExaminationDue();
            default: return false;
        }
    }

    private boolean hasEmptyPlace(Part host) {
        for (int kind = TRAIN; kind <= MOTOR; kind++) {
            if (inside(host, kind) < placesFor(host.kind, kind)) {
                return true;
            }
        }
        return false;
    }

    private boolean isApart(Part part) {
        return part.kind == BOGIE && spreadIn(part) > APART_IN_BOGIE
            || part.kind == COACH && spreadIn(part) > APART_IN_COACH;
    }

    private int spreadIn(Part host) {
        int least = NEW_DIAMETER;
        int most = 0;
        for (int i = 0; i < parts.size(); i++) {
            Part part = parts.get(i);
            if (part.wheel != null && part.isWithin(host)) {
                least = Math.min(least, part.wheel.diameter);
                most = Math.max(most, part.wheel.diameter);
            }
        }
        return most - least;
    }

    private static final class KindLimits {
        int life;
        int interval;
        int window;
    }

    private static final class Part {
        final int number;
        final int kind;
        final int melt;
        final int mod;
        final KindLimits limits;
        /** Null for all but wheelsets. */
        final Wheel wheel;
        /** Null in the store, and of what is scrapped. */
        Part host;
        boolean scrapped;
        int life;
        int sinceExamination;
        int waived;
        boolean quarantined;
        boolean recalled;
        int flaw;
        int lifeAtFlaw;
        boolean released;
        int road = NONE;
        int time;

        Part(int number, int kind, int melt, int mod, KindLimits limits) {
            this.number = number;
            this.kind = kind;
            this.melt = melt;
            this.mod = mod;
            this.limits = limits;
            this.wheel = kind == WHEELSET ? new Wheel() : null;
        }

        int whereabouts() {
            if (host != null) {
                return host.number;
            }
            return scrapped ? SCRAPPED : NONE;
        }

        boolean isInStore() {
            return host == null && !scrapped;
        }

        Part top() {
            Part top = this;
            // A kind holds only kinds above its own, so that no tree is deeper than there are kinds.
            for (int kind = TRAIN; kind <= MOTOR && top.host != null; kind++) {
                top = top.host;
            }
            return top;
        }

        boolean isWithin(Part whole) {
            Part around = host;
            for (int kind = TRAIN; kind <= MOTOR && around != null; kind++) {
                if (around == whole) {
                    return true;
                }
                around = around.host;
            }
            return false;
        }

        boolean isBound() {
            return top().road != NONE;
        }

        boolean mayBeExamined() {
            return limits.interval > 0 && sinceExamination >= limits.interval - limits.window;
        }

        boolean isExaminationDue() {
            return limits.interval > 0 && sinceExamination > limits.interval + waived;
        }

        void runs(int kilometres, int units) {
            int lifeBefore = life;
            life += kilometres;
            sinceExamination += kilometres;
            if (wheel != null) {
                wheel.wear(life / KILOMETRES_A_TREAD - lifeBefore / KILOMETRES_A_TREAD, units);
            }
            if (flaw > 0) {
                growFlaw((life - lifeAtFlaw) / KILOMETRES_A_GROWTH
                    - (lifeBefore - lifeAtFlaw) / KILOMETRES_A_GROWTH);
            }
        }

        private void growFlaw(int times) {
            for (int i = 0; i < times; i++) {
                flaw += 1 + flaw / 10;
            }
        }
    }

    private static final class Wheel {
        int diameter = NEW_DIAMETER;
        int flange = NEW_FLANGE;
        /** The latest that the gate told. */
        int told = NONE;
        /** Counted over all its life, so that the lathe loses nothing of a unit that is not full. */
        int rubbed;

        void wear(int tread, int units) {
            diameter -= tread;
            flange += rubbed / UNITS_A_FLANGE;
            rubbed += units;
            flange -= rubbed / UNITS_A_FLANGE;
        }

        void renewFlange() {
            diameter -= 2 * (NEW_FLANGE - flange);
            flange = NEW_FLANGE;
        }

        boolean isWorn() {
            return diameter < LEAST_DIAMETER || flange < LEAST_FLANGE;
        }
    }

    private static final class Event {
        final int part;
        final int to;
        /** 0 for a move. */
        final int kilometres;

        Event(int part, int to, int kilometres) {
            this.part = part;
            this.to = to;
            this.kilometres = kilometres;
        }
    }

    /** All moves and runs, in their order. */
    private static final class Log {
        private static final int MOST_EVENTS = 512;

        private final ArrayList<Event> events = new ArrayList<>();
        /** Made once, and used by each count anew. */
        private final int[] hosts = new int[MOST_PARTS];

        void addMove(int part, int to) {
            add(new Event(part, to, 0));
        }

        void addRun(int train, int kilometres) {
            add(new Event(train, NONE, kilometres));
        }

        private void add(Event event) {
            // An object is used for no more calls than that; what is answered later is free.
            if (events.size() < MOST_EVENTS) {
                events.add(event);
            }
        }

        int movesOf(int part) {
            int moves = 0;
            for (int i = 0; i < events.size(); i++) {
                if (isMoveOf(events.get(i), part)) {
                    moves++;
                }
            }
            return moves;
        }

        /** Answers null if there is no such move. */
        Event moveOf(int part, int move) {
            int passed = 0;
            for (int i = 0; i < events.size(); i++) {
                Event event = events.get(i);
                if (isMoveOf(event, part)) {
                    if (passed == move) {
                        return event;
                    }
                    passed++;
                }
            }
            return null;
        }

        private static boolean isMoveOf(Event event, int part) {
            return event.part == part && event.kilometres == 0;
        }

        int lifeOf(int part) {
            for (int i = 0; i < hosts.length; i++) {
                hosts[i] = NONE;
            }
            int life = 0;
            for (int i = 0; i < events.size(); i++) {
                Event event = events.get(i);
                if (event.kilometres > 0) {
                    life += topThen(part) == event.part ? event.kilometres : 0;
                } else if (isPart(event.part)) {
                    hosts[event.part] = event.to;
                }
            }
            return life;
        }

        private int topThen(int part) {
            int top = part;
            for (int kind = TRAIN; kind <= MOTOR && isPart(top) && hosts[top] >= 0; kind++) {
                top = hosts[top];
            }
            return top;
        }

        private boolean isPart(int number) {
            return number >= 0 && number < hosts.length;
        }
    }

    /**
     * A plan is an int with {@link #MOST_WAITING} bits for each road, of which bit i is set
     * if the train that waits as number i is to stand there.
     */
    private static final class Yard {
        private static final int MORE_THAN_ANY_PLAN = 1000;

        final ArrayList<Part> waiting = new ArrayList<>();
        /** In the order in which they were parked, so that of two on a road the later one is in front. */
        final ArrayList<Part> standing = new ArrayList<>();
        /** For each that waits those that wait before it and go out before it, a bit each. */
        private final int[] blocked = new int[MOST_WAITING];
        private int bestMoves;
        private int bestPlan;

        boolean isWaiting(Part train) {
            for (int i = 0; i < waiting.size(); i++) {
                if (waiting.get(i) == train) {
                    return true;
                }
            }
            return false;
        }

        boolean isTaken(int time) {
            for (int i = 0; i < waiting.size(); i++) {
                if (waiting.get(i).time == time) {
                    return true;
                }
            }
            return false;
        }

        int makePlan() {
            markBlocked();
            bestMoves = MORE_THAN_ANY_PLAN;
            searchPlan(this, 0, 0, 0);
            return bestMoves;
        }

        int makePlanAnew() {
            markBlocked();
            return fewestMoves(this, 0, 0);
        }

        int park() {
            int moves = makePlan();
            for (int i = 0; i < waiting.size(); i++) {
                Part train = waiting.get(i);
                train.road = roadIn(bestPlan, i);
                standing.add(train);
            }
            waiting.clear();
            return moves;
        }

        /** Answers how many stood in front of the one that goes out. */
        int sendFirst() {
            int first = 0;
            for (int i = 1; i < standing.size(); i++) {
                if (standing.get(i).time < standing.get(first).time) {
                    first = i;
                }
            }
            if (first >= standing.size()) {
                return 0;
            }
            Part train = standing.remove(first);
            int inFront = 0;
            for (int i = first; i < standing.size(); i++) {
                if (standing.get(i).road == train.road) {
                    inFront++;
                }
            }
            train.road = NONE;
            return inFront;
        }

        int trainOn(int road, int place) {
            int passed = 0;
            for (int i = 0; i < standing.size(); i++) {
                Part train = standing.get(i);
                if (train.road == road) {
                    if (passed == place) {
                        return train.number;
                    }
                    passed++;
                }
            }
            return NONE;
        }

        private void markBlocked() {
            for (int i = 0; i < waiting.size() && i < blocked.length; i++) {
                blocked[i] = 0;
                for (int behind = 0; behind < i; behind++) {
                    if (waiting.get(behind).time < waiting.get(i).time) {
                        blocked[i] |= 1 << behind;
                    }
                }
            }
        }

        /** Goes by the lower roads first, so that of plans with as few moves the first one is the right one. */
        private static void searchPlan(Yard yard, int index, int plan, int moves) {
            if (moves >= yard.bestMoves) {
                return;
            }
            if (index >= yard.waiting.size() || index >= yard.blocked.length) {
                yard.bestMoves = moves;
                yard.bestPlan = plan;
                return;
            }
            for (int road = 0; road < ROADS; road++) {
                int there = trainsIn(plan, road);
                if (Integer.bitCount(there) < ROAD_LENGTH) {
                    searchPlan(yard, index + 1, plan | bitOf(road, index),
                        moves + Integer.bitCount(there & yard.blocked[index]));
                }
            }
        }

        /** Tries all, without the short ways of the search. */
        private static int fewestMoves(Yard yard, int index, int plan) {
            if (index >= yard.waiting.size() || index >= yard.blocked.length) {
                return 0;
            }
            int fewest = MORE_THAN_ANY_PLAN;
            for (int road = 0; road < ROADS; road++) {
                int there = trainsIn(plan, road);
                if (Integer.bitCount(there) < ROAD_LENGTH) {
                    int moves = Integer.bitCount(there & yard.blocked[index])
                        + fewestMoves(yard, index + 1, plan | bitOf(road, index));
                    fewest = Math.min(fewest, moves);
                }
            }
            return fewest;
        }

        private static int trainsIn(int plan, int road) {
            return plan >> road * MOST_WAITING & (1 << MOST_WAITING) - 1;
        }

        private static int bitOf(int road, int index) {
            return 1 << road * MOST_WAITING + index;
        }

        private static int roadIn(int plan, int index) {
            for (int road = 0; road < ROADS; road++) {
                if ((plan & bitOf(road, index)) != 0) {
                    return road;
                }
            }
            return 0;
        }
    }
}
