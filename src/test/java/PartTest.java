/** Promises 1 to 3 and 22: a new works, its parts, the limits of their kinds, and what is told of a part. */
public final class PartTest {
    private static final Check check = new Check();

    public static void main(String[] args) {
        check.runAll(PartTest.class);
    }

    // ---- promise 1: a new object

    @Says(promise = 1, value = "No parts.")
    static void noCallFindsAPartInANewWorks() {
        for (int call = 0; call < Calls.MANY; call++) {
            boolean takesPart = call != Calls.PART && call != Calls.LIMITS && call != Calls.RECALL
                && call != Calls.NIGHT && call != Calls.OUT && call != Calls.PLAN && call != Calls.PLAN_ANEW
                && call != Calls.ROAD;
            if (takesPart) {
                check.due(Calls.NAMES[call], new Real(new WheelWorks()).call(call, 0, 1, 0, 0), Calls.INDEX);
            }
        }
    }

    @Says(promise = 1, value = "No parts.")
    static void noneIsRecalledOrWaitsInANewWorks() {
        WheelWorks x = new WheelWorks();
        for (int melt = 0; melt <= 9; melt++) {
            check.due("recall", x.recall(melt), 0);
        }
        check.due("plan", x.plan(), 0);
        check.due("planAnew", x.planAnew(), 0);
        check.due("road", x.road(0, 0), WheelWorks.NONE);
        check.refused("night", Check.STATE, WheelWorks::new, WheelWorks::night);
        check.refused("out", Check.STATE, WheelWorks::new, WheelWorks::out);
    }

    @Says(promise = 1, value = "No parts.")
    static void twoWorksHaveNothingInCommon() {
        WheelWorks one = Build.oneOfEach();
        one.limits(WheelWorks.MOTOR, 5, 5, 5);
        one.comes(0, 0);
        one.night();
        WheelWorks other = new WheelWorks();
        check.due("first part of the other", other.part(WheelWorks.TRAIN, 0, 0), 0);
        check.due("limit in the other", other.limits(WheelWorks.MOTOR, 6, 0, 0), 0);
        check.due("road of the other", other.road(0, 0), WheelWorks.NONE);
        check.due("limit in the one", one.limits(WheelWorks.MOTOR, 7, 0, 0), 5);
    }

    // ---- promise 2: part

    @Says(promise = 2, value = "kind: TRAIN to MOTOR")
    static void kindsOfParts() {
        check.range("kind", WheelWorks.TRAIN, WheelWorks.MOTOR, Build::oneOfEach, (x, kind) -> x.part(kind, 5, 2));
        WheelWorks x = new WheelWorks();
        for (int kind = WheelWorks.TRAIN; kind <= WheelWorks.MOTOR; kind++) {
            check.due("part", x.part(kind, 0, 0), kind);
            check.due("its kind", x.ofPart(kind, 0), kind);
        }
    }

    @Says(promise = 2, value = "melt: 0 to 9")
    static void meltsOfParts() {
        check.range("melt", 0, 9, Build::oneOfEach, (x, melt) -> x.part(WheelWorks.COACH, melt, 2));
        WheelWorks x = new WheelWorks();
        for (int melt = 0; melt <= 9; melt++) {
            check.due("part", x.part(WheelWorks.COACH, melt, 0), melt);
            check.due("its melt", x.ofPart(melt, 1), melt);
        }
    }

    @Says(promise = 2, value = "mod: 0 to 3")
    static void modsOfParts() {
        check.range("mod", 0, 3, Build::oneOfEach, (x, mod) -> x.part(WheelWorks.COACH, 5, mod));
        WheelWorks x = new WheelWorks();
        for (int mod = 0; mod <= 3; mod++) {
            check.due("part", x.part(WheelWorks.COACH, 0, mod), mod);
            check.due("its mod", x.ofPart(mod, 2), mod);
        }
    }

    @Says(promise = 2, value = "Adds a part, in the store.")
    static void aNewPartIsInTheStore() {
        WheelWorks x = new WheelWorks();
        x.part(WheelWorks.TRAIN, 0, 0);
        x.part(WheelWorks.COACH, 0, 0);
        check.due("host of part 0", x.host(0), WheelWorks.NONE);
        check.due("host of part 1", x.host(1), WheelWorks.NONE);
        check.due("moves of part 1", x.ofPart(1, 8), 0);
        check.due("it fits at once", x.fit(1, 0), 1);
    }

    @Says(promise = 2, value = "Returns its number.")
    static void numbersGoOnBehindScrap() {
        WheelWorks x = Build.oneOfEach();
        x.scrap(4);
        check.due("the next part", x.part(WheelWorks.MOTOR, 0, 0), 5);
        check.due("and the next", x.part(WheelWorks.MOTOR, 0, 0), 6);
    }

    @Says(promise = Says.TERMS, value = "Parts are numbered from 0, at most 60")
    static void sixtyPartsAreNumberedFrom0To59() {
        WheelWorks x = new WheelWorks();
        for (int number = 0; number < 60; number++) {
            check.due("part", x.part(number % 5, number % 10, number % 4), number);
        }
        for (int number = 0; number < 60; number++) {
            check.due("kind of " + number, x.ofPart(number, 0), number % 5);
            check.due("melt of " + number, x.ofPart(number, 1), number % 10);
            check.due("mod of " + number, x.ofPart(number, 2), number % 4);
        }
        check.noSuchPart(Build::sixty, WheelWorks::host);
    }

    @Says(promise = 2, value = "Throws IllegalArgumentException if an argument is out of range")
    static void aPartOutOfRangeIsNotAdded() {
        WheelWorks x = new WheelWorks();
        check.throwing("kind 5", Check.ARGUMENT, () -> x.part(5, 0, 0));
        check.throwing("melt 10", Check.ARGUMENT, () -> x.part(0, 10, 0));
        check.throwing("mod 4", Check.ARGUMENT, () -> x.part(0, 0, 4));
        check.throwing("all three", Check.ARGUMENT, () -> x.part(-1, -1, -1));
        check.due("the first part", x.part(0, 0, 0), 0);
    }

    @Says(promise = 2, value = "Throws IllegalStateException if there are 60")
    static void thereIsNo61stPart() {
        check.refused("the 61st part", Check.STATE, Build::sixty, x -> x.part(0, 0, 0));
        check.refused("scrap counts too", Check.STATE, Build::sixty, x -> x.scrap(59), x -> x.part(0, 0, 0));
    }

    @Says(promise = 2, value = "Throws IllegalArgumentException if an argument is out of range")
    static void a61stPartOutOfRangeIsAnIllegalArgument() {
        check.refused("kind -1", Check.ARGUMENT, Build::sixty, x -> x.part(-1, 0, 0));
        check.refused("kind 5", Check.ARGUMENT, Build::sixty, x -> x.part(5, 0, 0));
        check.refused("melt 10", Check.ARGUMENT, Build::sixty, x -> x.part(0, 10, 0));
        check.refused("mod 4", Check.ARGUMENT, Build::sixty, x -> x.part(0, 0, 4));
    }

    // ---- promise 3: limits

    /** New parts of each kind, that can all be examined at once, and have a limit. */
    private static WheelWorks limited() {
        WheelWorks x = Build.oneOfEach();
        for (int kind = WheelWorks.TRAIN; kind <= WheelWorks.MOTOR; kind++) {
            x.limits(kind, 70 + kind, 5, 5);
        }
        return x;
    }

    @Says(promise = 3, value = "kind: TRAIN to MOTOR")
    static void eachKindHasItsOwnLimits() {
        check.range("kind", WheelWorks.TRAIN, WheelWorks.MOTOR, PartTest::limited,
            (x, kind) -> x.limits(kind, 1, 2, 3));
        WheelWorks x = limited();
        for (int kind = WheelWorks.TRAIN; kind <= WheelWorks.MOTOR; kind++) {
            check.due("limit of kind " + kind, x.limits(kind, 0, 9, 0), 70 + kind);
        }
    }

    @Says(promise = 3, value = "life: 0 to 99999; 0 for no limit")
    static void limitsOfLife() {
        for (int kind = WheelWorks.TRAIN; kind <= WheelWorks.MOTOR; kind++) {
            int of = kind;
            check.range("life", 0, 99999, PartTest::limited, (x, life) -> x.limits(of, life, 1, 1));
        }
        WheelWorks x = new WheelWorks();
        x.limits(WheelWorks.BOGIE, 99999, 0, 0);
        check.due("the greatest", x.limits(WheelWorks.BOGIE, 0, 0, 0), 99999);
        check.due("the least", x.limits(WheelWorks.BOGIE, 1, 0, 0), 0);
    }

    @Says(promise = 3, value = "life: 0 to 99999; 0 for no limit")
    static void noLimitOfLifeBars() {
        WheelWorks x = Build.fullTrain();
        Build.ride(x, 0, 1, 0);
        check.due("0 at first", x.bars(0), 0);
        x.limits(WheelWorks.TRAIN, 1, 0, 0);
        Build.ride(x, 0, 1, 0);
        check.due("limit 1", x.bars(0), 4);
        x.limits(WheelWorks.TRAIN, 0, 0, 0);
        check.due("0 again", x.bars(0), 0);
    }

    @Says(promise = 3, value = "interval: 0 to 99999; 0 for no examinations")
    static void intervals() {
        for (int kind = WheelWorks.TRAIN; kind <= WheelWorks.MOTOR; kind++) {
            int of = kind;
            check.range("interval", 0, 99999, PartTest::limited, (x, interval) -> x.limits(of, 1, interval, 1));
        }
        WheelWorks x = Build.oneOfEach();
        x.limits(WheelWorks.BOGIE, 0, 99999, 99999);
        check.due("the greatest, less as much", x.examine(2), 0);
        x.limits(WheelWorks.BOGIE, 0, 99999, 99998);
        check.throwing("the greatest, less one less", Check.STATE, () -> x.examine(2));
    }

    @Says(promise = 3, value = "interval: 0 to 99999; 0 for no examinations")
    static void noIntervalIsNeverDue() {
        WheelWorks x = Build.fullTrain();
        Build.ride(x, 0, 2000, 0);
        check.due("0 at first", x.bars(0), 0);
        x.limits(WheelWorks.TRAIN, 0, 1, 0);
        check.due("interval 1", x.bars(0), 7);
        x.limits(WheelWorks.TRAIN, 0, 0, 99999);
        check.due("0 again", x.bars(0), 0);
        check.throwing("nor can it be examined", Check.STATE, () -> x.examine(0));
        check.throwing("nor can some be waived", Check.STATE, () -> x.waive(0, 1));
    }

    @Says(promise = 3, value = "window: 0 to 99999")
    static void windows() {
        for (int kind = WheelWorks.TRAIN; kind <= WheelWorks.MOTOR; kind++) {
            int of = kind;
            check.range("window", 0, 99999, PartTest::limited, (x, window) -> x.limits(of, 1, 1, window));
        }
        WheelWorks x = Build.fullTrain();
        Build.ride(x, 0, 10, 0);
        x.limits(WheelWorks.BOGIE, 0, 11, 0);
        check.throwing("no window, and one kilometre less", Check.STATE, () -> x.examine(2));
        x.limits(WheelWorks.BOGIE, 0, 10, 0);
        check.due("no window", x.examine(2), 10);
        x.limits(WheelWorks.BOGIE, 0, 1, 99999);
        check.due("the greatest", x.examine(2), 0);
    }

    @Says(promise = 3, value = "Returns the limit of life before.")
    static void theLimitOfLifeBefore() {
        WheelWorks x = new WheelWorks();
        check.due("at first", x.limits(WheelWorks.MOTOR, 3, 4, 5), 0);
        check.due("second", x.limits(WheelWorks.MOTOR, 99999, 7, 8), 3);
        check.due("third", x.limits(WheelWorks.MOTOR, 0, 0, 0), 99999);
        check.due("fourth", x.limits(WheelWorks.MOTOR, 0, 0, 0), 0);
    }

    @Says(promise = 3, value = "Throws IllegalArgumentException if an argument is out of range")
    static void limitsOutOfRangeAreNotSet() {
        check.refused("life", Check.ARGUMENT, PartTest::limited, x -> x.limits(4, 100000, 0, 0));
        check.refused("interval", Check.ARGUMENT, PartTest::limited, x -> x.limits(4, 1, 100000, 0));
        check.refused("window", Check.ARGUMENT, PartTest::limited, x -> x.limits(4, 1, 0, 100000));
        check.refused("all", Check.ARGUMENT, PartTest::limited, x -> x.limits(-1, -1, -1, -1));
    }

    @Says(promise = Says.TERMS, value = "Each kind has a limit of life in kilometres, an interval for examinations,"
        + " and a window, in kilometres; 0 at first, by which there is no such limit, or no examinations.")
    static void atFirstThereAreNoLimits() {
        WheelWorks x = Build.fullTrain();
        Build.ride(x, 0, 2000, 0);
        check.due("bars", x.bars(0), 0);
        for (int part = 0; part < Build.PARTS_OF_TRAIN; part++) {
            int examined = part;
            check.throwing("examine", Check.STATE, () -> x.examine(examined));
        }
        for (int kind = WheelWorks.TRAIN; kind <= WheelWorks.MOTOR; kind++) {
            check.due("limit of kind " + kind, x.limits(kind, 0, 0, 0), 0);
        }
    }

    // ---- promise 22: ofPart

    /** Motor 5 of a full train, with a bit of all that can be told of it. */
    private static WheelWorks oldMotor() {
        WheelWorks x = Build.fullTrain();
        x.limits(WheelWorks.MOTOR, 0, 100, 60);
        Build.ride(x, 0, 70, 0);
        x.examine(5);
        Build.ride(x, 0, 8, 0);
        x.waive(5, 33);
        x.recall(4);
        x.flaw(5, 20);
        x.look(5, false);
        return x;
    }

    @Says(promise = 22, value = "0 its kind, 1 its melt, 2 its mod, 3 the kilometres of its life, 4 those since its"
        + " latest examination, 5 what is waived, 6 whether it is quarantined, 7 whether it is recalled (1 or 0), 8"
        + " how many moves it had: into hosts, to the store, to be scrapped.")
    static void allThatIsToldOfAPart() {
        int[] due = {4, 4, 0, 78, 8, 33, 1, 1, 1};
        int[] dueOfBogie = {2, 2, 0, 78, 78, 0, 0, 0, 1};
        int[] dueAtFirst = {3, 8, 2, 0, 0, 0, 0, 0, 0};
        WheelWorks x = oldMotor();
        int anew = x.part(WheelWorks.WHEELSET, 8, 2);
        for (int what = 0; what < due.length; what++) {
            check.due("of the motor, " + what, x.ofPart(5, what), due[what]);
            check.due("of its bogie, " + what, x.ofPart(2, what), dueOfBogie[what]);
            check.due("of a new wheelset, " + what, x.ofPart(anew, what), dueAtFirst[what]);
        }
    }

    @Says(promise = 22, value = "what: 0 to 8")
    static void whatIsToldOfAPart() {
        check.range("what", 0, 8, PartTest::oldMotor, (x, what) -> x.ofPart(5, what));
    }

    @Says(promise = 22, value = "8 how many moves it had: into hosts, to the store, to be scrapped.")
    static void movesAreCounted() {
        WheelWorks x = Build.oneOfEach();
        check.due("none", x.ofPart(4, 8), 0);
        x.fit(4, 2);
        check.due("into a host", x.ofPart(4, 8), 1);
        check.due("that is none of the host", x.ofPart(2, 8), 0);
        x.fit(2, 1);
        check.due("that is none of what is in it", x.ofPart(4, 8), 1);
        x.take(2);
        x.take(4);
        check.due("to the store", x.ofPart(4, 8), 2);
        x.scrap(4);
        check.due("to be scrapped", x.ofPart(4, 8), 3);
        check.throwing("refused", Check.STATE, () -> x.scrap(4));
        check.due("behind that", x.ofPart(4, 8), 3);
        WheelWorks y = Build.outAgain();
        y.run(0, 1, 0);
        check.due("roads and runs are none", y.ofPart(0, 8), 0);
        check.due("nor of what was fitted", y.ofPart(1, 8), 1);
    }

    @Says(promise = 22, value = "Throws IndexOutOfBoundsException if there is no such part")
    static void nothingIsToldOfNoPart() {
        check.noSuchPart(Build::oneOfEach, (x, part) -> x.ofPart(part, 0));
        check.noSuchPart(Build::oneOfEach, (x, part) -> x.ofPart(part, 9));
        check.noSuchPart(WheelWorks::new, (x, part) -> x.ofPart(part, 8));
    }

    @Says(promise = 22, value = "Throws IllegalArgumentException if what is out of range")
    static void nothingElseIsToldOfAnyKind() {
        for (int kind = WheelWorks.TRAIN; kind <= WheelWorks.MOTOR; kind++) {
            int part = kind;
            check.refused("what 9", Check.ARGUMENT, Build::oneOfEach, x -> x.ofPart(part, 9));
            check.refused("what -1", Check.ARGUMENT, Build::oneOfEach, x -> x.ofPart(part, -1));
        }
    }
}
