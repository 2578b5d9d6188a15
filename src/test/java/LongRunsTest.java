/** All promises at once: long runs of calls, good and bad ones, of which each answer is as the model's. */
public final class LongRunsTest {
    private static final int RUNS = 600;
    private static final int CALLS = 512;

    private static final Check check = new Check();

    private final Real real = new Real(new WheelWorks());
    private final Model model = new Model();
    private final Numbers numbers;
    private final int run;
    private final Seen seen;
    private final StringBuilder told = new StringBuilder();
    private int calls;
    private int parts;
    private boolean wrong;

    /** How often each call answered, or threw each exception, and how often a train was barred, or broke. */
    private static final class Seen {
        final long[][] answers = new long[Calls.MANY][4];
        final long[] bars = new long[8];
        long breaks;
    }

    private LongRunsTest(int run, Seen seen) {
        this.run = run;
        this.seen = seen;
        this.numbers = new Numbers(run);
    }

    public static void main(String[] args) {
        Seen seen = new Seen();
        for (int run = 0; run < RUNS && !check.hasFailed(); run++) {
            new LongRunsTest(run, seen).play();
        }
        for (int call = 0; call < Calls.MANY; call++) {
            check.due(Calls.NAMES[call] + " answered in some run", seen.answers[call][3] > 0, true);
        }
        for (int bar = 0; bar < seen.bars.length; bar++) {
            check.due("a release told " + bar + " in many runs", seen.bars[bar] > 100, true);
        }
        check.due("trains broke in many runs", seen.breaks > 100, true);
        check.end();
    }

    private void play() {
        int trains = numbers.below(3);
        for (int i = 0; i < trains; i++) {
            train();
        }
        if (numbers.oneIn(4)) {
            for (int i = 0; i < 9; i++) {
                call(Calls.PART, WheelWorks.TRAIN, 0, 0, 0);
            }
        }
        // Some runs are left alone with few changes, so that trains get old.
        int changes = numbers.oneIn(2) ? 12 : 7;
        while (calls < CALLS && !wrong) {
            step(changes);
        }
    }

    private long call(int call, int a, int b, int c, int d) {
        if (calls >= CALLS || wrong) {
            return Calls.OTHER;
        }
        calls++;
        long want = model.call(call, a, b, c, d);
        long got = real.call(call, a, b, c, d);
        told.append(Calls.NAMES[call]).append(' ').append(a).append(' ').append(b).append(' ').append(c)
            .append(' ').append(d).append(" = ").append(got).append('\n');
        note(call, got);
        check.due("run " + run + ", " + Calls.NAMES[call] + "(" + a + ", " + b + ", " + c + ", " + d + ")", got, want);
        if (got != want) {
            wrong = true;
            System.out.println(told);
        }
        if (call == Calls.PART && got >= 0) {
            parts++;
        }
        return got;
    }

    private void note(int call, long got) {
        seen.answers[call][got < Calls.OTHER ? (int) (got - Calls.INDEX) : 3]++;
        if (call == Calls.RELEASE && got >= 0 && got < seen.bars.length) {
            seen.bars[(int) got]++;
        }
        if (call == Calls.RUN && got >= 0) {
            seen.breaks++;
        }
    }

    private void train() {
        int mod = numbers.below(4);
        int train = (int) call(Calls.PART, WheelWorks.TRAIN, numbers.below(10), mod, 0);
        for (int c = 0; c < 2; c++) {
            int coach = fitted(WheelWorks.COACH, mod, train);
            for (int b = 0; b < 2; b++) {
                int bogie = fitted(WheelWorks.BOGIE, mod, coach);
                fitted(WheelWorks.WHEELSET, mod, bogie);
                fitted(WheelWorks.MOTOR, mod, bogie);
                fitted(WheelWorks.WHEELSET, mod, bogie);
            }
        }
    }

    private int fitted(int kind, int mod, int host) {
        int part = (int) call(Calls.PART, kind, numbers.below(10), mod, 0);
        call(Calls.FIT, part, host, 0, 0);
        return part;
    }

    private int anyPart() {
        return numbers.oneIn(40) ? numbers.between(-1, 60) : numbers.below(Math.max(1, parts));
    }

    /** One of so many parts of that kind, if there is one; by the model, so that it is no call. */
    private int anyOf(int kind) {
        int from = anyPart();
        for (int i = 0; i < 60; i++) {
            int part = (from + i + 60) % 60;
            if (model.call(Calls.OF_PART, part, 0, 0, 0) == kind && !numbers.oneIn(4)) {
                return part;
            }
        }
        return from;
    }

    private int within(int least, int most) {
        return numbers.oneIn(12) ? (numbers.oneIn(2) ? least - 1 : most + 1) : numbers.between(least, most);
    }

    private void step(int kinds) {
        switch (numbers.below(kinds)) {
            case 0:
            case 1:
            case 2:
                ride();
                break;
            case 3:
            case 4:
            case 5:
                mend();
                break;
            case 6:
                tell();
                break;
            case 7:
            case 8:
                anyCall();
                break;
            case 9:
                change();
                break;
            case 10:
                evening();
                break;
            default:
                tell();
        }
    }

    private void anyCall() {
        switch (numbers.below(12)) {
            case 0:
                call(Calls.PART, within(0, 4), within(0, 9), within(0, 3), 0);
                break;
            case 1:
                call(Calls.LIMITS, within(0, 4), limit(), limit(), limit());
                break;
            case 2:
                call(Calls.SCRAP, anyPart(), 0, 0, 0);
                break;
            case 3:
                call(Calls.FLAW, anyOf(numbers.between(3, 4)), within(1, 99), 0, 0);
                break;
            case 4:
                call(Calls.LOOK, anyPart(), numbers.below(2), 0, 0);
                break;
            case 5:
                call(Calls.LOOK, anyOf(numbers.between(3, 4)), 0, 0, 0);
                break;
            case 6:
                call(Calls.RECALL, within(0, 9), 0, 0, 0);
                break;
            case 7:
                call(Calls.CLEAR, anyPart(), 0, 0, 0);
                break;
            case 8:
                call(Calls.WAIVE, anyPart(), within(1, 999), 0, 0);
                break;
            case 9:
                call(Calls.EXAMINE, anyPart(), 0, 0, 0);
                break;
            case 10:
                call(Calls.TURN, anyOf(WheelWorks.BOGIE), 0, 0, 0);
                break;
            default:
                call(Calls.GATE, anyOf(WheelWorks.WHEELSET), within(-5, 5), 0, 0);
        }
    }

    private int limit() {
        if (numbers.oneIn(2)) {
            return 0;
        }
        return numbers.oneIn(8) ? within(0, 99999) : numbers.below(6000);
    }

    private void ride() {
        int train = anyOf(WheelWorks.TRAIN);
        call(Calls.RELEASE, train, 0, 0, 0);
        if (numbers.oneIn(6)) {
            anyCall();
        }
        if (numbers.oneIn(6)) {
            call(Calls.FLAW, anyOf(numbers.between(3, 4)), numbers.between(50, 99), 0, 0);
        }
        if (numbers.oneIn(12)) {
            call(Calls.LIMITS, within(0, 4), limit(), limit(), limit());
        }
        int kilometres = numbers.oneIn(2) ? within(1, 2000) : 100 * numbers.between(1, 20);
        call(Calls.RUN, train, kilometres, within(0, 3), 0);
    }

    /** Does away with what bars a train, so that runs get far. */
    private void mend() {
        int train = anyOf(WheelWorks.TRAIN);
        for (int i = 0; i < 6; i++) {
            int bar = (int) call(Calls.BARS, train, 0, 0, 0);
            int by = (int) call(Calls.BARRED_BY, train, 0, 0, 0);
            mend(bar, by);
        }
    }

    private void mend(int bar, int by) {
        switch (bar) {
            case 1:
                fill(by);
                break;
            case 2:
                call(Calls.CLEAR, by, 0, 0, 0);
                break;
            case 3: {
                int host = (int) call(Calls.TAKE, by, 0, 0, 0);
                call(Calls.LOOK, by, 1, 0, 0);
                call(Calls.FIT, by, host, 0, 0);
                break;
            }
            case 4:
                call(Calls.LIMITS, (int) model.call(Calls.OF_PART, by, 0, 0, 0), 0, limit(), limit());
                break;
            case 5:
                call(Calls.TURN, (int) call(Calls.HOST, by, 0, 0, 0), 0, 0, 0);
                break;
            case 6:
                call(Calls.TURN, by, 0, 0, 0);
                break;
            case 7:
                call(Calls.EXAMINE, by, 0, 0, 0);
                break;
            default:
        }
    }

    private void fill(int host) {
        int kind = (int) model.call(Calls.OF_PART, host, 0, 0, 0);
        for (int part = 0; part < parts; part++) {
            int of = (int) model.call(Calls.OF_PART, part, 0, 0, 0);
            boolean free = model.call(Calls.HOST, part, 0, 0, 0) == WheelWorks.NONE;
            if (free && (of == kind + 1 || kind == 2 && of == 4)) {
                call(Calls.FIT, part, host, 0, 0);
            }
        }
    }

    private void change() {
        int part = anyPart();
        int host = (int) call(Calls.TAKE, part, 0, 0, 0);
        int kind = (int) call(Calls.OF_PART, part, 0, 0, 0);
        if (host >= 0) {
            if (numbers.oneIn(2)) {
                part = (int) call(Calls.PART, kind, numbers.below(10), numbers.below(4), 0);
            }
            call(Calls.FIT, part, numbers.oneIn(3) ? anyOf(kind - 1) : host, 0, 0);
        } else {
            call(Calls.FIT, part, anyOf(kind - 1), 0, 0);
        }
    }

    private void evening() {
        int many = numbers.below(5);
        for (int i = 0; i < many; i++) {
            call(Calls.COMES, anyOf(WheelWorks.TRAIN), within(0, 99), 0, 0);
        }
        if (numbers.oneIn(3)) {
            call(numbers.oneIn(2) ? Calls.PLAN : Calls.PLAN_ANEW, 0, 0, 0, 0);
        }
        if (numbers.oneIn(3)) {
            call(Calls.NIGHT, 0, 0, 0, 0);
        }
        while (calls < CALLS && !numbers.oneIn(4)) {
            call(Calls.OUT, 0, 0, 0, 0);
            call(Calls.ROAD, within(0, 2), within(0, 4), 0, 0);
        }
    }

    private void tell() {
        int call = numbers.between(Calls.HOST, Calls.ROAD);
        switch (call) {
            case Calls.OF_PART:
                call(call, anyPart(), within(0, 8), 0, 0);
                break;
            case Calls.TRACE:
                call(call, anyPart(), within(0, 3), 0, 0);
                break;
            case Calls.WHEEL:
                call(call, anyOf(WheelWorks.WHEELSET), within(0, 2), 0, 0);
                break;
            case Calls.FORETELL:
                call(call, anyOf(WheelWorks.WHEELSET), within(1, 2000), within(0, 3), 0);
                break;
            case Calls.BARS:
            case Calls.BARRED_BY:
            case Calls.IS_RELEASED:
                call(call, anyOf(WheelWorks.TRAIN), 0, 0, 0);
                break;
            case Calls.PLAN:
            case Calls.PLAN_ANEW:
                call(call, 0, 0, 0, 0);
                break;
            case Calls.ROAD:
                call(call, within(0, 2), within(0, 4), 0, 0);
                break;
            default:
                call(call, anyPart(), 0, 0, 0);
        }
    }
}
