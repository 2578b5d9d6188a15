import java.util.ArrayList;
import java.util.List;

/**
 * A call that throws changes nothing: each such call is made on a works with something of everything, and all
 * that can be told is told as without it. Each thing is asked on new works, for an object has its 512 calls.
 */
public final class UnchangedTest {
    private static final int PARTS = 27;
    private static final int MOST_TRACED = 4;

    private static final Check check = new Check();

    public static void main(String[] args) {
        List<int[]> throwing = throwingCalls(false);
        List<int[]> throwingAtNight = throwingCalls(true);
        check.due("some calls throw", throwing.size() > 200, true);
        check.due("some throw at night", throwingAtNight.size() > 200, true);
        compare(throwing, false);
        compare(throwingAtNight, true);
        tellingChangesNothing(false);
        tellingChangesNothing(true);
        check.end();
    }

    /** A train that ran and has a bit of all, spare parts, scrap, and trains in the evening or at night. */
    private static Real world(boolean atNight) {
        WheelWorks x = Build.fullTrain();
        x.part(WheelWorks.TRAIN, 5, 1);
        x.part(WheelWorks.TRAIN, 6, 1);
        x.part(WheelWorks.COACH, 7, 2);
        x.part(WheelWorks.BOGIE, 7, 2);
        x.part(WheelWorks.WHEELSET, 8, 2);
        x.part(WheelWorks.WHEELSET, 8, 1);
        x.part(WheelWorks.MOTOR, 8, 3);
        x.part(WheelWorks.MOTOR, 9, 3);
        x.fit(23, 22);
        x.limits(WheelWorks.MOTOR, 9000, 800, 100);
        x.limits(WheelWorks.TRAIN, 0, 3000, 500);
        x.flaw(5, 20);
        x.flaw(25, 30);
        Build.ride(x, 0, 777, 1);
        x.gate(3, -2);
        x.examine(9);
        x.waive(14, 50);
        x.scrap(26);
        x.recall(8);
        x.look(25, true);
        x.comes(19, 30);
        x.comes(20, 20);
        if (atNight) {
            x.night();
            x.comes(0, 5);
        }
        x.release(0);
        return new Real(x);
    }

    private static List<int[]> throwingCalls(boolean atNight) {
        List<int[]> all = new ArrayList<>();
        int[] numbers = {-1, 0, 1, 2, 3, 5, 19, 20, 23, 24, 25, 26, 27, Integer.MAX_VALUE};
        for (int call = 0; call < Calls.MANY; call++) {
            for (int a : numbers) {
                for (int b : new int[] {Integer.MIN_VALUE, -6, 0, 1, 22, 20, 99, 2001}) {
                    for (int c : new int[] {0, 4}) {
                        if (world(atNight).call(call, a, b, c, 0) <= Calls.OTHER) {
                            all.add(new int[] {call, a, b, c});
                        }
                    }
                }
            }
        }
        return all;
    }

    /** So many throwing calls are made on one works that it has calls left to be asked by. */
    private static void compare(List<int[]> throwing, boolean atNight) {
        int most = 300;
        for (int from = 0; from < throwing.size(); from += most) {
            List<int[]> some = throwing.subList(from, Math.min(throwing.size(), from + most));
            for (int part = 0; part <= PARTS; part++) {
                Real tried = world(atNight);
                for (int[] call : some) {
                    long answer = tried.call(call[0], call[1], call[2], call[3], 0);
                    check.due(Calls.NAMES[call[0]] + " throws again", answer < Calls.OTHER, true);
                }
                check.due("behind calls that throw, of " + part, told(tried, part), told(world(atNight), part));
            }
        }
    }

    private static void tellingChangesNothing(boolean atNight) {
        for (int part = 0; part <= PARTS; part++) {
            Real asked = world(atNight);
            String first = told(asked, part);
            check.due("asked twice, of " + part, told(asked, part), first);
            Real unasked = world(atNight);
            check.due("it runs alike", asked.call(Calls.RUN, 0, 100, 2, 0), unasked.call(Calls.RUN, 0, 100, 2, 0));
            check.due("night alike", asked.call(Calls.NIGHT, 0, 0, 0, 0), unasked.call(Calls.NIGHT, 0, 0, 0, 0));
        }
    }

    /** All that can be told of a part; of the number behind the last one, of the roads. */
    private static String told(Real x, int part) {
        StringBuilder text = new StringBuilder();
        if (part == PARTS) {
            tell(text, x.call(Calls.PLAN, 0, 0, 0, 0));
            tell(text, x.call(Calls.PLAN_ANEW, 0, 0, 0, 0));
            for (int place = 0; place < 15; place++) {
                tell(text, x.call(Calls.ROAD, place % 3, place / 3, 0, 0));
            }
            return text.toString();
        }
        for (int call : new int[] {Calls.HOST, Calls.HEAD, Calls.LIFE_ANEW, Calls.BARS, Calls.BARRED_BY,
            Calls.IS_RELEASED}) {
            tell(text, x.call(call, part, 0, 0, 0));
        }
        tell(text, x.call(Calls.FORETELL, part, 10, 0, 0));
        for (int what = 0; what <= 8; what++) {
            tell(text, x.call(Calls.OF_PART, part, what, 0, 0));
            tell(text, x.call(Calls.WHEEL, part, what, 0, 0));
        }
        for (int move = 0; move < MOST_TRACED; move++) {
            tell(text, x.call(Calls.TRACE, part, move, 0, 0));
        }
        return text.toString();
    }

    private static void tell(StringBuilder text, long answer) {
        text.append(answer).append(' ');
    }
}
