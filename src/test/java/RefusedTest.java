import java.util.ArrayList;
import java.util.List;

/** What the terms tell of calls that throw, and that calls that tell change nothing, for all calls at once. */
public final class RefusedTest {
    private static final int PARTS = 27;
    /** So many calls are made on one works that it has calls left to be built and asked by. */
    private static final int MANY_CALLS = 300;

    private static final Check check = new Check();

    public static void main(String[] args) {
        check.runAll(RefusedTest.class);
    }

    /** A train that ran and has a bit of all, spare parts, scrap, and trains in the evening. */
    private static WheelWorks evening() {
        WheelWorks x = Build.fullTrain();
        x.part(WheelWorks.TRAIN, 5, 1);
        x.part(WheelWorks.TRAIN, 6, 1);
        x.part(WheelWorks.COACH, 7, 2);
        x.part(WheelWorks.BOGIE, 7, 2);
        x.part(WheelWorks.WHEELSET, 8, 2);
        x.part(WheelWorks.WHEELSET, 8, 1);
        x.part(WheelWorks.MOTOR, 8, 3);
        x.part(WheelWorks.MOTOR, 9, 3);
        x.fit(23, 22);
        x.limits(WheelWorks.MOTOR, 9000, 800, 100);
        x.limits(WheelWorks.TRAIN, 0, 3000, 500);
        x.flaw(5, 20);
        x.flaw(25, 30);
        Build.ride(x, 0, 777, 1);
        x.gate(3, -2);
        x.examine(9);
        x.waive(14, 50);
        x.scrap(26);
        x.recall(8);
        x.look(25, true);
        x.comes(19, 30);
        x.comes(20, 20);
        x.release(0);
        return x;
    }

    /** As above, with the trains on roads, and the one that ran in the next evening. */
    private static WheelWorks night() {
        WheelWorks x = evening();
        x.night();
        x.comes(0, 5);
        return x;
    }

    /** Calls with numbers that are right, and such that are not. */
    private static List<int[]> manyCalls() {
        List<int[]> all = new ArrayList<>();
        int[] numbers = {-1, 0, 1, 2, 3, 5, 19, 20, 23, 24, 25, 26, 27, Integer.MAX_VALUE};
        for (int call = 0; call < Calls.MANY; call++) {
            for (int a : numbers) {
                for (int b : new int[] {Integer.MIN_VALUE, -6, 0, 1, 22, 20, 99, 2001}) {
                    for (int c : new int[] {0, 4}) {
                        all.add(new int[] {call, a, b, c});
                    }
                }
            }
        }
        return all;
    }

    private static List<int[]> throwingCalls(Check.World world) {
        List<int[]> throwing = new ArrayList<>();
        for (int[] call : manyCalls()) {
            if (new Real(world.make()).call(call[0], call[1], call[2], call[3], 0) <= Calls.OTHER) {
                throwing.add(call);
            }
        }
        check.due("many calls throw", throwing.size() > 200, true);
        return throwing;
    }

    private static List<int[]> tellingCalls() {
        List<int[]> telling = new ArrayList<>();
        for (int[] call : manyCalls()) {
            if (call[0] >= Calls.HOST) {
                telling.add(call);
            }
        }
        return telling;
    }

    /** All that can be learnt is as without these calls. */
    private static void changeNothing(List<int[]> calls, Check.World world) {
        for (int from = 0; from < calls.size(); from += MANY_CALLS) {
            List<int[]> some = calls.subList(from, Math.min(calls.size(), from + MANY_CALLS));
            for (int part = Told.ALL_BUT_PARTS; part < PARTS; part++) {
                WheelWorks x = world.make();
                Real tried = new Real(x);
                for (int[] call : some) {
                    long answer = tried.call(call[0], call[1], call[2], call[3], 0);
                    check.due(Calls.NAMES[call[0]] + " throws what no call throws", answer == Calls.OTHER, false);
                }
                check.due("behind these calls", Told.of(x, part), Told.of(world.make(), part));
            }
        }
    }

    @Says(promise = Says.TERMS, value = "A call that throws an exception changes nothing.")
    static void callsThatThrowInTheEvening() {
        changeNothing(throwingCalls(RefusedTest::evening), RefusedTest::evening);
    }

    @Says(promise = Says.TERMS, value = "A call that throws an exception changes nothing.")
    static void callsThatThrowAtNight() {
        changeNothing(throwingCalls(RefusedTest::night), RefusedTest::night);
    }

    @Says(promise = Says.TERMS, value = "nothing from here on changes anything")
    static void callsThatTell() {
        changeNothing(tellingCalls(), RefusedTest::evening);
        changeNothing(tellingCalls(), RefusedTest::night);
    }

    @Says(promise = Says.TERMS, value = "nothing from here on changes anything")
    static void atNightAllIsAsUnasked() {
        Real asked = new Real(evening());
        Real unasked = new Real(evening());
        for (int[] call : tellingCalls().subList(0, MANY_CALLS)) {
            asked.call(call[0], call[1], call[2], call[3], 0);
        }
        check.due("run", asked.call(Calls.RUN, 0, 100, 2, 0), unasked.call(Calls.RUN, 0, 100, 2, 0));
        check.due("night", asked.call(Calls.NIGHT, 0, 0, 0, 0), unasked.call(Calls.NIGHT, 0, 0, 0, 0));
    }

    @Says(promise = Says.TERMS, value = "If several exceptions apply, the one that is named first in the throws"
        + " clause is thrown.")
    static void theFirstOfTheThrowsClause() {
        check.throwing("part", Check.ARGUMENT, () -> Build.sixty().part(5, 0, 0));
        check.throwing("fit, no such host", Check.INDEX, () -> night().fit(0, 27));
        check.throwing("fit, no place in scrap", Check.ARGUMENT, () -> night().fit(5, 26));
        check.throwing("run, no such train", Check.INDEX, () -> night().run(27, 0, 4));
        check.throwing("run, bound", Check.ARGUMENT, () -> night().run(19, 0, 4));
        check.throwing("turn, no bogie", Check.ARGUMENT, () -> night().turn(19));
        check.throwing("gate", Check.INDEX, () -> night().gate(27, 6));
        check.throwing("waive, no such part", Check.INDEX, () -> night().waive(27, 0));
        check.throwing("waive, waived", Check.ARGUMENT, () -> night().waive(14, 1000));
        check.throwing("flaw", Check.INDEX, () -> night().flaw(27, 100));
        check.throwing("comes, no such train", Check.INDEX, () -> night().comes(27, 100));
        check.throwing("comes, on a road", Check.ARGUMENT, () -> night().comes(19, 100));
        check.throwing("comes, no train, and that time", Check.ARGUMENT, () -> night().comes(1, 5));
        check.throwing("ofPart", Check.INDEX, () -> night().ofPart(27, 9));
        check.throwing("wheel", Check.INDEX, () -> night().wheel(27, 3));
        check.throwing("foretell", Check.INDEX, () -> night().foretell(27, 0, 4));
    }

    @Says(promise = Says.TERMS, value = "A method that takes a part, a train, a bogie, a wheelset or a host throws"
        + " IndexOutOfBoundsException if there is no such part")
    static void eachCallThatTakesAPart() {
        int calls = 0;
        for (int call = 0; call < Calls.MANY; call++) {
            if (new Real(new WheelWorks()).call(call, 0, 1, 0, 0) == Calls.INDEX) {
                calls++;
                for (int part : new int[] {-1, -2, 27, 28, 59, 60, 61, Integer.MIN_VALUE, Integer.MAX_VALUE}) {
                    check.due(Calls.NAMES[call] + " of " + part, new Real(night()).call(call, part, 1, 0, 0),
                        Calls.INDEX);
                }
            }
        }
        check.due("calls that take a part", calls, 23);
    }

    @Says(promise = Says.TERMS, value = "and IllegalArgumentException if it is of another kind")
    static void eachCallThatTakesAPartOfAKind() {
        int[] calls = {Calls.RUN, Calls.RELEASE, Calls.COMES, Calls.BARS, Calls.BARRED_BY, Calls.IS_RELEASED,
            Calls.TURN, Calls.GATE, Calls.WHEEL, Calls.FORETELL};
        int[] kinds = {0, 0, 0, 0, 0, 0, 2, 3, 3, 3};
        for (int i = 0; i < calls.length; i++) {
            for (int part = 0; part <= 4; part++) {
                long answer = new Real(Build.oneOfEach()).call(calls[i], part, 1, 0, 0);
                check.due(Calls.NAMES[calls[i]] + " of kind " + part, answer == Calls.ARGUMENT, part != kinds[i]);
            }
        }
    }
}
