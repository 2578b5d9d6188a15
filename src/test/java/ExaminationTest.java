/** Promises 10 and 11: examinations with their windows, and what is waived of them. */
public final class ExaminationTest {
    private static final Check check = new Check();

    public static void main(String[] args) {
        check.runAll(ExaminationTest.class);
    }

    /** A full train that has run so far, and then an interval and a window for bogies. */
    private static WheelWorks bogiesBehind(int kilometres, int interval, int window) {
        WheelWorks x = Build.fullTrain();
        Build.ride(x, 0, kilometres, 0);
        x.limits(WheelWorks.BOGIE, 0, interval, window);
        return x;
    }

    /** One of each kind, that can all be examined at once. */
    private static WheelWorks examinable() {
        WheelWorks x = Build.oneOfEach();
        for (int kind = WheelWorks.TRAIN; kind <= WheelWorks.MOTOR; kind++) {
            x.limits(kind, 0, 1, 1);
        }
        return x;
    }

    // ---- promise 10: examine

    @Says(promise = 10, value = "Returns the kilometres since the latest examination.")
    static void kilometresSinceTheLatestExamination() {
        WheelWorks x = bogiesBehind(700, 1000, 1000);
        check.due("since it was new", x.examine(2), 700);
        Build.ride(x, 0, 1, 0);
        check.due("since the first one", x.examine(2), 1);
        check.due("of another bogie", x.examine(6), 701);
        check.due("of a new part", examinable().examine(0), 0);
    }

    @Says(promise = Says.TERMS, value = "then they are 0, and what was waived is 0")
    static void whatAnExaminationChanges() {
        WheelWorks x = bogiesBehind(700, 1000, 300);
        x.waive(2, 999);
        x.waive(6, 1);
        x.examine(2);
        check.due("kilometres since", x.ofPart(2, 4), 0);
        check.due("waived", x.ofPart(2, 5), 0);
        check.due("life", x.ofPart(2, 3), 700);
        check.due("kilometres since, of another bogie", x.ofPart(6, 4), 700);
        check.due("waived of another bogie", x.ofPart(6, 5), 1);
        check.due("of its coach", x.ofPart(1, 4), 700);
        check.due("of its motor", x.ofPart(5, 4), 700);
        Build.ride(x, 0, 5, 0);
        check.due("kilometres since", x.ofPart(2, 4), 5);
        check.due("of another bogie", x.ofPart(6, 4), 705);
    }

    @Says(promise = Says.TERMS, value = "the kilometres since are at least the interval less the window")
    static void theEdgeOfTheWindow() {
        check.due("1000 less 300", bogiesBehind(700, 1000, 300).examine(2), 700);
        check.due("one more", bogiesBehind(701, 1000, 300).examine(2), 701);
        check.refused("one less", Check.STATE, () -> bogiesBehind(699, 1000, 300), x -> x.examine(2));
        check.due("no window", bogiesBehind(700, 700, 0).examine(2), 700);
        check.refused("no window, one less", Check.STATE, () -> bogiesBehind(699, 700, 0), x -> x.examine(2));
        check.due("far above the interval", bogiesBehind(2000, 1, 0).examine(2), 2000);
    }

    @Says(promise = Says.TERMS, value = "the kilometres since are at least the interval less the window")
    static void windowsOfTheIntervalAndMore() {
        for (int window : new int[] {5, 6, 99999}) {
            WheelWorks x = bogiesBehind(1, 5, window);
            check.due("window " + window, x.examine(2), 1);
            check.due("at once again", x.examine(2), 0);
        }
        check.due("window 4 of 5", bogiesBehind(1, 5, 4).examine(2), 1);
        check.refused("window 4 of 5, at once again", Check.STATE, () -> bogiesBehind(1, 5, 4), x -> x.examine(2),
            x -> x.examine(2));
    }

    @Says(promise = Says.TERMS, value = "the kilometres since are at least the interval less the window")
    static void theKilometresOfItsLifeDoNotCount() {
        WheelWorks x = bogiesBehind(700, 700, 0);
        for (int bogie : new int[] {2, 6, 11, 15}) {
            x.examine(bogie);
        }
        Build.ride(x, 0, 699, 0);
        check.throwing("699 since", Check.STATE, () -> x.examine(2));
        Build.ride(x, 0, 1, 0);
        check.due("700 since", x.examine(2), 700);
    }

    @Says(promise = Says.TERMS, value = "An examination is possible, if the kind has an interval")
    static void noIntervalNoExamination() {
        for (int part = 0; part <= 4; part++) {
            int examined = part;
            check.refused("none at first", Check.STATE, Build::oneOfEach, x -> x.examine(examined));
            check.refused("none, and a window", Check.STATE, () -> onlyWindows(0), x -> x.examine(examined));
            check.due("1, and a window", onlyWindows(1).examine(examined), 0);
        }
        check.refused("of another kind", Check.STATE, () -> bogiesBehind(700, 1, 1), x -> x.examine(1));
        check.refused("2000 kilometres", Check.STATE, () -> bogiesBehind(2000, 0, 99999), x -> x.examine(2));
    }

    private static WheelWorks onlyWindows(int interval) {
        WheelWorks x = Build.oneOfEach();
        for (int kind = WheelWorks.TRAIN; kind <= WheelWorks.MOTOR; kind++) {
            x.limits(kind, 0, interval, 99999);
        }
        return x;
    }

    @Says(promise = 10, value = "Throws IndexOutOfBoundsException if there is no such part")
    static void noSuchPartIsExamined() {
        check.noSuchPart(ExaminationTest::examinable, WheelWorks::examine);
        check.noSuchPart(WheelWorks::new, WheelWorks::examine);
    }

    @Says(promise = 10, value = "that is not possible, as told")
    static void anExaminationThatIsNotPossibleChangesNothing() {
        check.refused("one kilometre short, and some waived", Check.STATE, () -> bogiesBehind(9, 10, 0),
            x -> x.waive(2, 7), x -> x.examine(2));
        check.refused("as waived, one short of the interval", Check.STATE, () -> bogiesBehind(9, 10, 0),
            x -> x.waive(2, 1), x -> x.examine(2));
    }

    @Says(promise = 10, value = "it is scrapped")
    static void scrapIsNotExamined() {
        for (int part = 0; part <= 4; part++) {
            int examined = part;
            check.refused("part " + part, Check.STATE, ExaminationTest::examinable, x -> x.scrap(examined),
                x -> x.examine(examined));
            check.refused("some waived, part " + part, Check.STATE, ExaminationTest::examinable,
                x -> {
                    x.waive(examined, 7);
                    x.scrap(examined);
                },
                x -> x.examine(examined));
            check.due("not scrapped", examinable().examine(examined), 0);
        }
    }

    @Says(promise = 10, value = "or bound")
    static void whatIsBoundIsNotExamined() {
        for (int part = 0; part <= 3; part++) {
            int examined = part;
            check.refused("part " + part, Check.STATE, ExaminationTest::examinable, Build::parkOneOfEach,
                x -> x.examine(examined));
        }
        check.refused("700 since, and some waived", Check.STATE, () -> bogiesBehind(700, 1000, 300),
            x -> {
                x.waive(2, 7);
                Build.park(x);
            },
            x -> x.examine(2));
        WheelWorks x = Check.behind(ExaminationTest::examinable, Build::parkOneOfEach);
        check.due("not in that train", x.examine(4), 0);
        x.out();
        for (int part = 0; part <= 3; part++) {
            check.due("it is out", x.examine(part), 0);
        }
        x.comes(0, 0);
        for (int part = 0; part <= 3; part++) {
            check.due("it waits", x.examine(part), 0);
        }
    }

    // ---- promise 11: waive

    @Says(promise = 11, value = "kilometres: 1 to 999")
    static void kilometresWaived() {
        check.range("kilometres", 1, 999, ExaminationTest::examinable, (x, kilometres) -> x.waive(2, kilometres));
        for (int kilometres : new int[] {1, 999}) {
            WheelWorks x = examinable();
            x.waive(2, kilometres);
            check.due("waived", x.ofPart(2, 5), kilometres);
        }
    }

    @Says(promise = 11, value = "Waives kilometres of an examination.")
    static void partsOfAllKindsAndPlaces() {
        for (int part = 0; part <= 4; part++) {
            WheelWorks x = examinable();
            x.waive(part, 3 + part);
            for (int other = 0; other <= 4; other++) {
                check.due("waived", x.ofPart(other, 5), other == part ? 3 + part : 0);
            }
        }
        WheelWorks x = Check.behind(ExaminationTest::examinable, Build::parkOneOfEach);
        x.waive(3, 5);
        check.due("bound", x.ofPart(3, 5), 5);
        x.scrap(4);
        x.waive(4, 6);
        check.due("scrapped", x.ofPart(4, 5), 6);
    }

    @Says(promise = Says.TERMS, value = "It is due, if they are above the interval and what was waived, together.")
    static void dueAboveTheIntervalAndWhatWasWaived() {
        WheelWorks x = bogiesBehind(1000, 1000, 0);
        check.due("at the interval", x.bars(0), 0);
        check.due("one above it", dueBehind(1001, 0), 7);
        check.due("one above it, 1 waived", dueBehind(1001, 1), 0);
        check.due("two above it, 1 waived", dueBehind(1002, 1), 7);
        check.due("999 above it, 999 waived", dueBehind(1999, 999), 0);
        check.due("1000 above it, 999 waived", dueBehind(2000, 999), 7);
    }

    /** What bars a train behind so far, by an interval of 1000 and with so much waived of all bogies. */
    private static int dueBehind(int kilometres, int waived) {
        WheelWorks x = bogiesBehind(kilometres, 1000, 0);
        for (int bogie : new int[] {2, 6, 11, 15}) {
            if (waived > 0) {
                x.waive(bogie, waived);
            }
        }
        return x.bars(0);
    }

    @Says(promise = Says.TERMS, value = "Kilometres can be waived once between two examinations.")
    static void onceBetweenTwoExaminations() {
        WheelWorks x = bogiesBehind(700, 1000, 300);
        x.waive(2, 1);
        check.throwing("twice", Check.STATE, () -> x.waive(2, 2));
        check.due("as it was", x.ofPart(2, 5), 1);
        x.waive(6, 2);
        check.due("of another bogie", x.ofPart(6, 5), 2);
        x.examine(2);
        x.waive(2, 3);
        check.due("behind the examination", x.ofPart(2, 5), 3);
        check.throwing("twice behind it", Check.STATE, () -> x.waive(2, 4));
    }

    @Says(promise = 11, value = "Throws IndexOutOfBoundsException if there is no such part")
    static void nothingIsWaivedOfNoPart() {
        check.noSuchPart(ExaminationTest::examinable, (x, part) -> x.waive(part, 1));
        check.noSuchPart(WheelWorks::new, (x, part) -> x.waive(part, 1));
        check.refused("kilometres out of range too", Check.INDEX, ExaminationTest::examinable, x -> x.waive(5, 0));
        check.refused("kilometres out of range too", Check.INDEX, ExaminationTest::examinable, x -> x.waive(-1, 1000));
    }

    @Says(promise = 11, value = "Throws IllegalArgumentException if kilometres is out of range")
    static void outOfRangeComesBeforeTheState() {
        check.refused("0, no interval", Check.ARGUMENT, Build::oneOfEach, x -> x.waive(2, 0));
        check.refused("1000, no interval", Check.ARGUMENT, Build::oneOfEach, x -> x.waive(2, 1000));
        check.refused("0, waived", Check.ARGUMENT, ExaminationTest::examinable, x -> x.waive(2, 5), x -> x.waive(2, 0));
        check.refused("1000, waived", Check.ARGUMENT, ExaminationTest::examinable, x -> x.waive(2, 5),
            x -> x.waive(2, 1000));
    }

    @Says(promise = 11, value = "the kind has no interval")
    static void nothingIsWaivedWithoutAnInterval() {
        for (int part = 0; part <= 4; part++) {
            int waived = part;
            check.refused("none at first", Check.STATE, Build::oneOfEach, x -> x.waive(waived, 1));
            check.refused("none, and a window", Check.STATE, () -> onlyWindows(0), x -> x.waive(waived, 999));
        }
        check.refused("of another kind", Check.STATE, () -> bogiesBehind(700, 1, 1), x -> x.waive(1, 1));
        check.refused("none any more", Check.STATE, ExaminationTest::examinable, x -> x.limits(2, 0, 0, 1),
            x -> x.waive(2, 1));
        WheelWorks x = Build.oneOfEach();
        x.limits(2, 0, 1, 0);
        x.waive(2, 1);
        check.due("the least interval", x.ofPart(2, 5), 1);
    }

    @Says(promise = 11, value = "some were waived since the latest examination")
    static void nothingIsWaivedTwice() {
        for (int before : new int[] {1, 999}) {
            check.refused("behind " + before, Check.STATE, ExaminationTest::examinable, x -> x.waive(2, before),
                x -> x.waive(2, 1));
        }
        check.refused("an interval set anew ends it not", Check.STATE, ExaminationTest::examinable,
            x -> {
                x.waive(2, 1);
                x.limits(2, 0, 0, 0);
                x.limits(2, 0, 1, 1);
            },
            x -> x.waive(2, 1));
    }
}
