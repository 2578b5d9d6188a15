/**
 * All that can be learnt of a works about one of its parts, or about all else. Each is to be asked of a works of
 * its own, for an object has its 512 calls, and what can only be learnt by a change is asked last.
 */
final class Told {
    static final int ALL_BUT_PARTS = -1;

    private static final int ROADS = 3;
    private static final int PLACES = 5;
    private static final int KINDS = 5;
    private static final int MELTS = 10;
    private static final int MOST_PARTS = 60;

    private final Real works;
    private final StringBuilder text = new StringBuilder();

    private Told(WheelWorks x) {
        works = new Real(x);
    }

    static int partsOf(WheelWorks x) {
        Real works = new Real(x);
        int parts = 0;
        while (parts < MOST_PARTS && works.call(Calls.HOST, parts, 0, 0, 0) > Calls.OTHER) {
            parts++;
        }
        return parts;
    }

    static String of(WheelWorks x, int part) {
        Told told = new Told(x);
        if (part == ALL_BUT_PARTS) {
            told.plans();
            told.roads();
            told.limits();
            told.recalls();
            told.nights();
            told.ask(Calls.PART, 0, 0);
        } else {
            told.part(part);
            told.changing(part);
        }
        return told.text.toString();
    }

    private long ask(int call, int a, int b) {
        long answer = works.call(call, a, b, 0, 0);
        text.append(Calls.NAMES[call]).append(' ').append(answer).append(", ");
        return answer;
    }

    private void part(int part) {
        for (int call : new int[] {Calls.HOST, Calls.HEAD, Calls.LIFE_ANEW, Calls.BARS, Calls.BARRED_BY,
            Calls.IS_RELEASED}) {
            ask(call, part, 0);
        }
        for (int what = 0; what <= 8; what++) {
            ask(Calls.OF_PART, part, what);
        }
        for (int what = 0; what <= 2; what++) {
            ask(Calls.WHEEL, part, what);
        }
        ask(Calls.FORETELL, part, 1);
        for (int move = 0; ask(Calls.TRACE, part, move) > Calls.OTHER; move++) {
            text.append("of move ").append(move).append(", ");
        }
    }

    /** Its flaw, whether it can be examined, and whether more can be waived. */
    private void changing(int part) {
        ask(Calls.WAIVE, part, 1);
        ask(Calls.EXAMINE, part, 0);
        ask(Calls.FLAW, part, 1);
    }

    private void plans() {
        ask(Calls.PLAN, 0, 0);
        ask(Calls.PLAN_ANEW, 0, 0);
    }

    private void roads() {
        for (int road = 0; road < ROADS; road++) {
            for (int place = 0; place < PLACES; place++) {
                ask(Calls.ROAD, road, place);
            }
        }
    }

    private void limits() {
        for (int kind = 0; kind < KINDS; kind++) {
            ask(Calls.LIMITS, kind, 0);
        }
    }

    private void recalls() {
        for (int melt = 0; melt < MELTS; melt++) {
            ask(Calls.RECALL, melt, 0);
        }
    }

    /** Those that stand, and those that wait: the latter are learnt only as they are parked. */
    private void nights() {
        morning();
        ask(Calls.NIGHT, 0, 0);
        roads();
        morning();
    }

    private void morning() {
        while (ask(Calls.OUT, 0, 0) > Calls.OTHER) {
            ask(Calls.ROAD, 0, 0);
            ask(Calls.ROAD, 1, 0);
            ask(Calls.ROAD, 2, 0);
        }
    }
}
