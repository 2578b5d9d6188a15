import java.util.ArrayList;
import java.util.List;

/**
 * The works as the document tells it, with nothing kept that follows from the rest: wear, flaws and kilometres
 * are found from the rides of a part each time. A call that throws answers INDEX, ARGUMENT or STATE.
 */
final class Model implements Calls {
    private static final int[] UNITS = {1, 2, 3, 2};

    private static final class Ride {
        final int kilometres;
        final int season;

        Ride(int kilometres, int season) {
            this.kilometres = kilometres;
            this.season = season;
        }
    }

    private static final class Thing {
        int kind;
        int melt;
        int mod;
        int at = -1;
        final List<Integer> moves = new ArrayList<>();
        final List<Ride> rides = new ArrayList<>();
        int ridesExamined;
        int waived;
        boolean quarantined;
        boolean recalled;
        boolean released;
        int flawTold;
        int flawRides;
        int cut;
        int restored;
        int gate = -1;
        int time = -1;
        boolean waits;
        int road = -1;
    }

    private final List<Thing> things = new ArrayList<>();
    private final int[] life = new int[5];
    private final int[] interval = new int[5];
    private final int[] window = new int[5];
    private final List<Thing> waiting = new ArrayList<>();
    private final List<List<Thing>> roads = List.of(new ArrayList<>(), new ArrayList<>(), new ArrayList<>());

    @Override
    public long call(int call, int a, int b, int c, int d) {
        switch (call) {
            case PART: return part(a, b, c);
            case LIMITS: return limits(a, b, c, d);
            case RECALL: return recall(a);
            case NIGHT: return night();
            case OUT: return out();
            case PLAN:
            case PLAN_ANEW: return plan();
            case ROAD: return road(a, b);
            default: return a < 0 || a >= things.size() ? INDEX : ofPart(call, things.get(a), a, b, c);
        }
    }

    private long ofPart(int call, Thing t, int a, int b, int c) {
        switch (call) {
            case FIT: return fit(t, a, b);
            case TAKE: return take(t);
            case SCRAP: return scrap(t);
            case RUN: return run(t, b, c);
            case TURN: return turn(t);
            case GATE: return gate(t, b);
            case EXAMINE: return examine(t);
            case WAIVE: return waive(t, b);
            case FLAW: return flaw(t, b);
            case LOOK: return look(t, b != 0);
            case CLEAR: return clear(t);
            case RELEASE: return release(t);
            case COMES: return comes(t, b);
            case HOST: return t.at;
            case HEAD: return things.indexOf(head(t));
            case OF_PART: return tell(t, b);
            case TRACE: return b < 0 || b >= t.moves.size() ? INDEX : t.moves.get(b);
            case LIFE_ANEW: return kilometres(t, 0);
            case WHEEL: return wheel(t, b);
            case FORETELL: return foretell(t, b, c);
            case BARS: return t.kind != 0 ? ARGUMENT : bar(t);
            case BARRED_BY: return t.kind != 0 ? ARGUMENT : barredBy(t, bar(t));
            case IS_RELEASED: return t.kind != 0 ? ARGUMENT : t.released ? 1 : 0;
            default: throw new AssertionError("no such call: " + call);
        }
    }

    private static boolean in(int value, int least, int most) {
        return least <= value && value <= most;
    }

    private Thing head(Thing t) {
        return t.at < 0 ? t : head(things.get(t.at));
    }

    private boolean bound(Thing t) {
        return head(t).road >= 0;
    }

    private static int kilometres(Thing t, int from) {
        int sum = 0;
        for (Ride ride : t.rides.subList(from, t.rides.size())) {
            sum += ride.kilometres;
        }
        return sum;
    }

    private static int flaw(Thing t) {
        int size = t.flawTold;
        if (size > 0) {
            for (int k = 500; k <= kilometres(t, t.flawRides); k += 500) {
                size += 1 + size / 10;
            }
        }
        return size;
    }

    private static int diameter(Thing t) {
        return 9000 - kilometres(t, 0) / 100 - t.cut;
    }

    private static int flange(Thing t) {
        int units = 0;
        for (Ride ride : t.rides) {
            units += ride.kilometres * UNITS[ride.season];
        }
        return 300 - units / 200 + t.restored;
    }

    private List<Thing> within(Thing host, int kind) {
        List<Thing> found = new ArrayList<>();
        for (Thing t : things) {
            if (t.at >= 0 && things.get(t.at) == host && (kind < 0 || t.kind == kind)) {
                found.add(t);
            }
        }
        return found;
    }

    private static int places(int host, int kind) {
        if (host == 0 && kind == 1 || host == 1 && kind == 2 || host == 2 && kind == 3) {
            return 2;
        }
        return host == 2 && kind == 4 ? 1 : 0;
    }

    private long part(int kind, int melt, int mod) {
        if (!in(kind, 0, 4) || !in(melt, 0, 9) || !in(mod, 0, 3)) {
            return ARGUMENT;
        }
        if (things.size() == 60) {
            return STATE;
        }
        Thing t = new Thing();
        t.kind = kind;
        t.melt = melt;
        t.mod = mod;
        things.add(t);
        return things.size() - 1;
    }

    private long limits(int kind, int newLife, int newInterval, int newWindow) {
        if (!in(kind, 0, 4) || !in(newLife, 0, 99999) || !in(newInterval, 0, 99999) || !in(newWindow, 0, 99999)) {
            return ARGUMENT;
        }
        int before = life[kind];
        life[kind] = newLife;
        interval[kind] = newInterval;
        window[kind] = newWindow;
        return before;
    }

    private long fit(Thing t, int a, int b) {
        if (b < 0 || b >= things.size()) {
            return INDEX;
        }
        Thing host = things.get(b);
        int places = places(host.kind, t.kind);
        if (places == 0) {
            return ARGUMENT;
        }
        boolean apart = t.mod - host.mod > 1 || host.mod - t.mod > 1;
        if (t.at != -1 || t.quarantined || host.at == -2 || bound(host) || apart) {
            return STATE;
        }
        if (within(host, t.kind).size() == places) {
            return STATE;
        }
        head(host).released = false;
        t.at = b;
        t.moves.add(b);
        return within(host, -1).size();
    }

    private long take(Thing t) {
        if (t.at < 0 || bound(t)) {
            return STATE;
        }
        int host = t.at;
        head(t).released = false;
        t.at = -1;
        t.moves.add(-1);
        return host;
    }

    private long scrap(Thing t) {
        if (t.at != -1 || !within(t, -1).isEmpty() || bound(t) || t.waits) {
            return STATE;
        }
        t.at = -2;
        t.moves.add(-2);
        return 0;
    }

    private long run(Thing train, int kilometres, int season) {
        if (train.kind != 0 || !in(kilometres, 1, 2000) || !in(season, 0, 3)) {
            return ARGUMENT;
        }
        if (!train.released || train.road >= 0) {
            return STATE;
        }
        train.released = false;
        List<Thing> tree = new ArrayList<>();
        Thing broken = null;
        for (Thing t : things) {
            if (head(t) == train) {
                tree.add(t);
                t.rides.add(new Ride(kilometres, season));
                if (broken == null && flaw(t) >= 100) {
                    broken = t;
                }
            }
        }
        if (broken == null) {
            return -1;
        }
        for (Thing t : tree) {
            t.quarantined = true;
        }
        return things.indexOf(broken);
    }

    private long turn(Thing bogie) {
        if (bogie.kind != 2) {
            return ARGUMENT;
        }
        List<Thing> pair = within(bogie, 3);
        if (pair.size() < 2 || bound(bogie)) {
            return STATE;
        }
        int before = 0;
        int least = Integer.MAX_VALUE;
        for (Thing t : pair) {
            before += diameter(t);
            int lost = 300 - flange(t);
            t.cut += 2 * lost;
            t.restored += lost;
            least = Math.min(least, diameter(t));
        }
        for (Thing t : pair) {
            t.cut += diameter(t) - least;
            before -= diameter(t);
        }
        return before;
    }

    private long gate(Thing t, int error) {
        if (t.kind != 3 || !in(error, -5, 5)) {
            return ARGUMENT;
        }
        t.gate = flange(t) + error;
        return t.gate;
    }

    private long examine(Thing t) {
        int since = kilometres(t, t.ridesExamined);
        boolean possible = interval[t.kind] > 0 && since + window[t.kind] >= interval[t.kind];
        if (!possible || t.at == -2 || bound(t)) {
            return STATE;
        }
        t.ridesExamined = t.rides.size();
        t.waived = 0;
        return since;
    }

    private long waive(Thing t, int kilometres) {
        if (!in(kilometres, 1, 999)) {
            return ARGUMENT;
        }
        if (interval[t.kind] == 0 || t.waived != 0) {
            return STATE;
        }
        t.waived = kilometres;
        return 0;
    }

    private long flaw(Thing t, int size) {
        if (t.kind < 3 || !in(size, 1, 99)) {
            return ARGUMENT;
        }
        int before = flaw(t);
        t.flawTold = size;
        t.flawRides = t.rides.size();
        return before;
    }

    private long look(Thing t, boolean byMagnet) {
        if (t.at == -2 || bound(t) || byMagnet && t.at != -1) {
            return STATE;
        }
        int size = flaw(t);
        if (size < (byMagnet ? 3 : 10)) {
            t.recalled &= !byMagnet;
            return 0;
        }
        t.quarantined = true;
        head(t).released = false;
        return size;
    }

    private long clear(Thing t) {
        if (!t.quarantined || bound(t)) {
            return STATE;
        }
        int size = flaw(t);
        t.flawTold = 0;
        t.quarantined = false;
        return size;
    }

    private long recall(int melt) {
        if (!in(melt, 0, 9)) {
            return ARGUMENT;
        }
        int many = 0;
        for (Thing t : things) {
            if (t.melt == melt && t.at != -2 && !t.recalled) {
                many++;
                t.recalled = true;
                head(t).released = false;
            }
        }
        return many;
    }

    private long release(Thing train) {
        if (train.kind != 0) {
            return ARGUMENT;
        }
        train.released = bar(train) == 0;
        return bar(train);
    }

    private int bar(Thing train) {
        for (int bar = 1; bar <= 7; bar++) {
            if (barredBy(train, bar) >= 0) {
                return bar;
            }
        }
        return 0;
    }

    private int barredBy(Thing train, int bar) {
        for (int number = 0; number < things.size(); number++) {
            if (head(things.get(number)) == train && isBarred(things.get(number), bar)) {
                return number;
            }
        }
        return -1;
    }

    private boolean isBarred(Thing t, int bar) {
        int since = kilometres(t, t.ridesExamined);
        switch (bar) {
            case 1: return within(t, -1).size() < (t.kind < 2 ? 2 : t.kind == 2 ? 3 : 0);
            case 2: return t.quarantined;
            case 3: return t.recalled;
            case 4: return life[t.kind] != 0 && kilometres(t, 0) > life[t.kind];
            case 5: return t.kind == 3 && (diameter(t) < 8500 || flange(t) < 250);
            case 6: return t.kind == 2 && apart(within(t, 3), 20) || t.kind == 1 && apart(ofCoach(t), 60);
            case 7: return interval[t.kind] != 0 && since > interval[t.kind] + t.waived;
            default: return false;
        }
    }

    private List<Thing> ofCoach(Thing coach) {
        List<Thing> all = new ArrayList<>();
        for (Thing bogie : within(coach, 2)) {
            all.addAll(within(bogie, 3));
        }
        return all;
    }

    private static boolean apart(List<Thing> wheelsets, int most) {
        for (Thing one : wheelsets) {
            for (Thing other : wheelsets) {
                if (diameter(one) - diameter(other) > most) {
                    return true;
                }
            }
        }
        return false;
    }

    private long comes(Thing train, int time) {
        if (train.kind != 0 || !in(time, 0, 99)) {
            return ARGUMENT;
        }
        boolean taken = false;
        for (Thing t : waiting) {
            taken |= t.time == time;
        }
        if (waiting.size() == 8 || taken || train.waits || train.road >= 0 || train.at == -2) {
            return STATE;
        }
        train.time = time;
        train.waits = true;
        waiting.add(train);
        return waiting.size();
    }

    private int[] times() {
        int[] times = new int[waiting.size()];
        for (int i = 0; i < times.length; i++) {
            times[i] = waiting.get(i).time;
        }
        return times;
    }

    private long plan() {
        return Parking.moves(times(), Parking.best(times()));
    }

    private long night() {
        if (waiting.isEmpty() || !(roads.get(0).isEmpty() && roads.get(1).isEmpty() && roads.get(2).isEmpty())) {
            return STATE;
        }
        long moves = plan();
        int[] best = Parking.best(times());
        for (int i = 0; i < best.length; i++) {
            Thing train = waiting.get(i);
            train.waits = false;
            train.road = best[i];
            roads.get(best[i]).add(train);
        }
        waiting.clear();
        return moves;
    }

    private long out() {
        Thing first = null;
        for (List<Thing> road : roads) {
            for (Thing train : road) {
                if (first == null || train.time < first.time) {
                    first = train;
                }
            }
        }
        if (first == null) {
            return STATE;
        }
        List<Thing> road = roads.get(first.road);
        int place = road.indexOf(first);
        first.road = -1;
        road.remove(place);
        return road.size() - place;
    }

    private long road(int road, int place) {
        if (!in(road, 0, 2) || place < 0) {
            return INDEX;
        }
        List<Thing> trains = roads.get(road);
        return place < trains.size() ? things.indexOf(trains.get(place)) : -1;
    }

    private static long tell(Thing t, int what) {
        if (!in(what, 0, 8)) {
            return ARGUMENT;
        }
        int[] all = {t.kind, t.melt, t.mod, kilometres(t, 0), kilometres(t, t.ridesExamined), t.waived,
            t.quarantined ? 1 : 0, t.recalled ? 1 : 0, t.moves.size()};
        return all[what];
    }

    private static long wheel(Thing t, int what) {
        if (t.kind != 3 || !in(what, 0, 2)) {
            return ARGUMENT;
        }
        return what == 0 ? diameter(t) : what == 1 ? flange(t) : t.gate;
    }

    private static long foretell(Thing t, int kilometres, int season) {
        if (t.kind != 3 || !in(kilometres, 1, 2000) || !in(season, 0, 3)) {
            return ARGUMENT;
        }
        if (t.gate < 0) {
            return -1;
        }
        return t.gate <= 250 ? 0 : (t.gate - 250) * 200 / (kilometres * UNITS[season]);
    }
}
