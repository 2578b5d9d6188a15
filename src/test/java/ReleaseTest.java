/** Promises 16, 22, 27, 28 and 29: what bars a train, by which part, and when a release is gone. */
public final class ReleaseTest {
    private static final Check check = new Check();

    public static void main(String[] args) {
        fullTrainIsReleased();
        emptyPlaces();
        quarantined();
        recalled();
        beyondLife();
        wornDiameter();
        wornFlange();
        apartInBogie();
        apartInCoach();
        apartTheLowest();
        apartByPartZero();
        examinationDue();
        firstOfAllBars();
        onlyItsOwnTree();
        releaseEnds();
        releaseStays();
        trainsThrow();
        ofPart();
        check.end();
    }

    /** What bars a train is told alike by bars(), barredBy() and release(). */
    private static void barred(String what, WheelWorks x, int bar, int by) {
        check.due(what + ", bars", x.bars(0), bar);
        check.due(what + ", barredBy", x.barredBy(0), by);
        check.due(what + ", release", x.release(0), bar);
        check.due(what + ", isReleased", x.isReleased(0), bar == 0);
    }

    private static void fullTrainIsReleased() {
        WheelWorks x = Build.fullTrain();
        check.due("at first", x.isReleased(0), false);
        check.due("bars changes nothing", x.bars(0), 0);
        check.due("still not", x.isReleased(0), false);
        barred("full", x, 0, WheelWorks.NONE);
        barred("full, again", x, 0, WheelWorks.NONE);
    }

    private static void emptyPlaces() {
        int[] taken = {1, 2, 3, 4, 5, 10, 11, 15, 16, 17, 18};
        int[] due = {0, 1, 2, 2, 2, 0, 10, 10, 15, 15, 15};
        for (int i = 0; i < taken.length; i++) {
            WheelWorks x = Build.fullTrain();
            x.take(taken[i]);
            barred(taken[i] + " is taken", x, 1, due[i]);
            x.fit(taken[i], due[i]);
            barred(taken[i] + " is back", x, 0, WheelWorks.NONE);
        }
        WheelWorks x = Build.fullTrain();
        x.take(18);
        x.take(14);
        x.take(7);
        barred("three are taken", x, 1, 6);
        barred("a train alone", Build.trains(1), 1, 0);
        barred("one of each", Build.oneOfEach(), 1, 0);
    }

    private static void quarantined() {
        WheelWorks x = Build.fullTrain();
        x.flaw(17, 10);
        x.flaw(12, 10);
        x.look(17, false);
        barred("17", x, 2, 17);
        x.look(12, false);
        barred("12 and 17", x, 2, 12);
    }

    private static void recalled() {
        WheelWorks x = Build.fullTrain();
        x.recall(3);
        barred("wheelsets", x, 3, 3);
        x.recall(2);
        barred("bogies too", x, 3, 2);
        x.recall(0);
        barred("the train too", x, 3, 0);
    }

    private static void beyondLife() {
        WheelWorks x = Build.fullTrain();
        Build.ride(x, 0, 1000, 0);
        x.limits(WheelWorks.MOTOR, 1000, 0, 0);
        barred("at its limit", x, 0, WheelWorks.NONE);
        x.limits(WheelWorks.MOTOR, 999, 0, 0);
        barred("motors", x, 4, 5);
        x.limits(WheelWorks.COACH, 1, 0, 0);
        barred("coaches too", x, 4, 1);
        x.limits(WheelWorks.TRAIN, 1, 0, 0);
        barred("the train too", x, 4, 0);
        x.limits(WheelWorks.TRAIN, 0, 0, 0);
        x.limits(WheelWorks.COACH, 0, 0, 0);
        x.limits(WheelWorks.MOTOR, 0, 0, 0);
        barred("no limit", x, 0, WheelWorks.NONE);
    }

    /** All wheelsets are turned alike, so that none is apart. */
    private static void turnAll(WheelWorks x) {
        for (int bogie : new int[] {2, 6, 11, 15}) {
            x.turn(bogie);
        }
    }

    private static void wornDiameter() {
        WheelWorks x = Build.fullTrain();
        for (int i = 0; i < 6; i++) {
            Build.ride(x, 0, 2000, 2);
            turnAll(x);
        }
        check.due("six times 20 and twice 30", x.wheel(3, 0), 8520);
        Build.ride(x, 0, 2000, 0);
        check.due("at the edge", x.wheel(3, 0), 8500);
        barred("8500", x, 0, WheelWorks.NONE);
        x.run(0, 100, 0);
        check.due("one less", x.wheel(3, 0), 8499);
        barred("8499", x, 5, 3);
    }

    private static void wornFlange() {
        WheelWorks x = Build.fullTrain();
        Build.ride(x, 0, 2000, 2);
        Build.ride(x, 0, 2000, 1);
        check.due("at the edge", x.wheel(3, 1), 250);
        barred("250", x, 0, WheelWorks.NONE);
        x.run(0, 200, 0);
        check.due("one less", x.wheel(3, 1), 249);
        barred("249", x, 5, 3);
        x.turn(2);
        barred("the next bogie", x, 5, 7);
        turnAll(x);
        barred("all are turned", x, 0, WheelWorks.NONE);
    }

    /** Puts a new wheelset into the place of one. */
    private static int change(WheelWorks x, int wheelset) {
        int bogie = x.take(wheelset);
        int anew = x.part(WheelWorks.WHEELSET, WheelWorks.WHEELSET, 0);
        x.fit(anew, bogie);
        return anew;
    }

    private static void apartInBogie() {
        WheelWorks x = Build.fullTrain();
        Build.ride(x, 0, 2000, 0);
        change(x, 13);
        barred("apart by 20", x, 0, WheelWorks.NONE);
        x.run(0, 100, 0);
        barred("apart by 20 still", x, 0, WheelWorks.NONE);
        change(x, 17);
        barred("apart by 21", x, 6, 15);
        x.turn(15);
        barred("turned", x, 0, WheelWorks.NONE);
        change(x, 12);
        barred("apart by 1 among the new ones", x, 0, WheelWorks.NONE);
    }

    private static void apartInCoach() {
        WheelWorks x = Build.fullTrain();
        Build.ride(x, 0, 2000, 0);
        Build.ride(x, 0, 2000, 0);
        Build.ride(x, 0, 2000, 0);
        int first = change(x, 12);
        int second = change(x, 13);
        check.due("a new one", x.wheel(second, 0), 9000);
        check.due("an old one", x.wheel(16, 0), 8940);
        barred("apart by 60", x, 0, WheelWorks.NONE);
        x.run(0, 99, 0);
        x.take(first);
        x.take(second);
        barred("taken", x, 1, 11);
        int third = x.part(WheelWorks.WHEELSET, 0, 0);
        int fourth = x.part(WheelWorks.WHEELSET, 0, 0);
        x.fit(first, 11);
        x.fit(second, 11);
        Build.ride(x, 0, 1, 0);
        x.take(first);
        x.take(second);
        x.fit(third, 11);
        x.fit(fourth, 11);
        check.due("an old one", x.wheel(16, 0), 8939);
        barred("apart by 61", x, 6, 10);
        x.take(2);
        x.take(11);
        x.fit(2, 10);
        barred("a coach with the other bogie", x, 1, 1);
        x.fit(11, 1);
        barred("the other coach", x, 6, 1);
    }

    private static void apartTheLowest() {
        WheelWorks x = Build.fullTrain();
        for (int i = 0; i < 4; i++) {
            Build.ride(x, 0, 2000, 0);
        }
        change(x, 3);
        barred("bogie 2 and coach 1", x, 6, 1);
        x.turn(2);
        check.due("both turned down to one", x.wheel(4, 0), 8840);
        barred("coach 1", x, 6, 1);
        x.turn(6);
        barred("the other bogie too", x, 0, WheelWorks.NONE);
        WheelWorks y = new WheelWorks();
        int bogie = Build.bogie(y, 0);
        int train = Build.train(y, 0);
        int coach = y.take(train + 2);
        y.fit(bogie, coach);
        for (int i = 0; i < 4; i++) {
            Build.ride(y, train, 2000, 0);
        }
        y.take(bogie + 1);
        y.fit(y.part(WheelWorks.WHEELSET, 0, 0), bogie);
        check.due("a bogie below its coach", bogie < coach, true);
        check.due("bogie and coach", y.bars(train), 6);
        check.due("the lower one", y.barredBy(train), bogie);
    }

    /** The wheelset by which a bogie is apart is part 0. */
    private static void apartByPartZero() {
        WheelWorks x = new WheelWorks();
        int spare = x.part(WheelWorks.WHEELSET, 0, 0);
        int train = Build.train(x, 0);
        Build.ride(x, train, 2000, 0);
        Build.ride(x, train, 100, 0);
        int bogie = x.take(4);
        x.fit(spare, bogie);
        check.due("apart by 21", x.bars(train), 6);
        check.due("the bogie", x.barredBy(train), bogie);
    }

    private static void examinationDue() {
        WheelWorks x = Build.fullTrain();
        x.limits(WheelWorks.COACH, 0, 1000, 1000);
        x.limits(WheelWorks.MOTOR, 0, 1001, 0);
        Build.ride(x, 0, 1000, 0);
        barred("at the interval", x, 0, WheelWorks.NONE);
        x.run(0, 1, 0);
        barred("above it", x, 7, 1);
        x.waive(1, 1);
        barred("one waived", x, 7, 10);
        x.examine(10);
        barred("one examined", x, 0, WheelWorks.NONE);
        x.run(0, 1, 0);
        barred("above what was waived", x, 7, 1);
        x.examine(1);
        barred("motors", x, 7, 5);
        x.limits(WheelWorks.MOTOR, 0, 0, 0);
        barred("none for motors", x, 0, WheelWorks.NONE);
    }

    private static void firstOfAllBars() {
        WheelWorks x = Build.fullTrain();
        Build.ride(x, 0, 2000, 2);
        Build.ride(x, 0, 2000, 2);
        x.limits(WheelWorks.TRAIN, 0, 1, 0);
        barred("5 before 7", x, 5, 3);
        turnAll(x);
        change(x, 17);
        barred("6 before 7", x, 6, 10);
        x.limits(WheelWorks.MOTOR, 1, 0, 0);
        barred("4 before 6", x, 4, 5);
        x.recall(1);
        barred("3 before 4", x, 3, 1);
        x.flaw(18, 10);
        x.look(18, false);
        barred("2 before 3", x, 2, 18);
        x.take(9);
        barred("1 before 2", x, 1, 6);
        x.fit(9, 6);
        x.clear(18);
        barred("3 again", x, 3, 1);
        WheelWorks y = Build.fullTrain();
        Build.ride(y, 0, 2000, 2);
        Build.ride(y, 0, 2000, 2);
        y.take(4);
        y.fit(y.part(WheelWorks.WHEELSET, 0, 0), 2);
        barred("5 before 6", y, 5, 3);
        y.limits(WheelWorks.TRAIN, 1, 0, 0);
        barred("4 before 5", y, 4, 0);
    }

    private static void onlyItsOwnTree() {
        WheelWorks x = Build.fullTrain();
        int other = Build.train(x, 0);
        x.limits(WheelWorks.COACH, 0, 5, 5);
        Build.ride(x, other, 100, 0);
        x.flaw(other + 3, 10);
        x.look(other + 3, false);
        barred("another train has all bars", x, 0, WheelWorks.NONE);
        check.due("the other", x.bars(other), 2);
        check.due("by", x.barredBy(other), other + 3);
        check.due("is not released", x.isReleased(other), false);
        x.run(0, 6, 0);
        barred("its own", x, 7, 1);
    }

    private static void releaseEnds() {
        WheelWorks x = Build.fullTrain();
        x.release(0);
        x.take(18);
        check.due("a part is taken", x.isReleased(0), false);
        x.fit(18, 15);
        check.due("it is back", x.isReleased(0), false);
        x.release(0);
        x.recall(9);
        check.due("nothing is recalled", x.isReleased(0), true);
        x.recall(4);
        check.due("a part is recalled", x.isReleased(0), false);
        WheelWorks y = Build.fullTrain();
        y.release(0);
        y.limits(WheelWorks.TRAIN, 0, 0, 0);
        y.run(0, 1, 0);
        y.release(0);
        y.limits(WheelWorks.BOGIE, 0, 1, 1);
        check.due("not by a limit", y.isReleased(0), true);
        y.run(0, 1, 0);
        y.limits(WheelWorks.BOGIE, 0, 2, 1);
        y.release(0);
        y.limits(WheelWorks.BOGIE, 0, 1, 1);
        check.due("bars now", y.bars(0), 7);
        check.due("released as it was", y.isReleased(0), true);
        check.due("to be released again", y.release(0), 7);
        check.due("and barred", y.isReleased(0), false);
    }

    private static void releaseStays() {
        WheelWorks x = Build.fullTrain();
        int other = Build.train(x, 0);
        x.limits(WheelWorks.MOTOR, 0, 9, 9);
        x.release(0);
        x.turn(2);
        x.gate(3, 0);
        x.examine(5);
        x.waive(5, 1);
        x.flaw(5, 50);
        x.look(4, false);
        x.take(other + 18);
        x.fit(other + 18, other + 15);
        x.flaw(other + 5, 50);
        x.look(other + 5, false);
        x.comes(0, 0);
        x.night();
        x.out();
        check.due("behind all that", x.isReleased(0), true);
        check.due("it runs", x.run(0, 2000, 2), WheelWorks.NONE);
        WheelWorks y = Build.fullTrain();
        Build.ride(y, 0, 1000, 0);
        y.release(0);
        y.limits(WheelWorks.TRAIN, 1, 0, 0);
        check.due("barred now", y.bars(0), 4);
        check.due("it runs by what was so then", y.run(0, 1, 0), WheelWorks.NONE);
    }

    private static void trainsThrow() {
        WheelWorks x = Build.oneOfEach();
        for (int part : new int[] {-1, 5, 60, Integer.MIN_VALUE, Integer.MAX_VALUE}) {
            check.throwing("release(" + part + ")", Check.INDEX, () -> x.release(part));
            check.throwing("bars(" + part + ")", Check.INDEX, () -> x.bars(part));
            check.throwing("barredBy(" + part + ")", Check.INDEX, () -> x.barredBy(part));
            check.throwing("isReleased(" + part + ")", Check.INDEX, () -> x.isReleased(part));
        }
        for (int kind = 1; kind <= 4; kind++) {
            int part = kind;
            check.throwing("release(" + part + ")", Check.ARGUMENT, () -> x.release(part));
            check.throwing("bars(" + part + ")", Check.ARGUMENT, () -> x.bars(part));
            check.throwing("barredBy(" + part + ")", Check.ARGUMENT, () -> x.barredBy(part));
            check.throwing("isReleased(" + part + ")", Check.ARGUMENT, () -> x.isReleased(part));
        }
    }

    private static void ofPart() {
        WheelWorks x = Build.fullTrain();
        x.limits(WheelWorks.MOTOR, 0, 100, 60);
        Build.ride(x, 0, 70, 0);
        x.examine(5);
        Build.ride(x, 0, 8, 0);
        x.waive(5, 33);
        x.recall(4);
        x.flaw(5, 20);
        x.look(5, false);
        int[] due = {4, 4, 0, 78, 8, 33, 1, 1, 1};
        for (int what = 0; what < due.length; what++) {
            check.due("ofPart(5, " + what + ")", x.ofPart(5, what), due[what]);
        }
        check.throwing("what 9", Check.ARGUMENT, () -> x.ofPart(5, 9));
        check.throwing("what -1", Check.ARGUMENT, () -> x.ofPart(5, -1));
        check.throwing("what far off", Check.ARGUMENT, () -> x.ofPart(5, Integer.MIN_VALUE));
        check.throwing("no such part, what 9", Check.INDEX, () -> x.ofPart(19, 9));
        check.throwing("part -1", Check.INDEX, () -> x.ofPart(-1, 0));
    }
}
