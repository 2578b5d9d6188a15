/** Promises 16 and 27 to 29: what bars a train, by which part, and when a release is gone. */
public final class ReleaseTest {
    private static final Check check = new Check();

    public static void main(String[] args) {
        check.runAll(ReleaseTest.class);
    }

    /** What bars train 0 is told alike by bars(), barredBy() and release(). */
    private static void barred(String what, WheelWorks x, int bar, int by) {
        check.due(what + ", bars", x.bars(0), bar);
        check.due(what + ", barredBy", x.barredBy(0), by);
        check.due(what + ", release", x.release(0), bar);
        check.due(what + ", isReleased", x.isReleased(0), bar == 0);
    }

    private static void free(String what, WheelWorks x) {
        barred(what, x, 0, WheelWorks.NONE);
    }

    /** A full train that has run so far, by runs of 2000 and what is left, in a season. */
    private static WheelWorks behind(int kilometres, int season) {
        WheelWorks x = Build.fullTrain();
        for (int left = kilometres; left > 0; left -= 2000) {
            Build.ride(x, 0, Math.min(left, 2000), season);
        }
        return x;
    }

    // ---- promise 16: release

    @Says(promise = 16, value = "Releases a train, if nothing bars it.")
    static void aFullTrainIsReleased() {
        WheelWorks x = Build.fullTrain();
        check.due("at first", x.isReleased(0), false);
        free("full", x);
        free("full, again", x);
        check.due("on a road", Build.onRoad().release(0), 0);
        check.due("waiting", Build.waiting().release(0), 0);
    }

    @Says(promise = 16, value = "Returns 0 to 7, as told.")
    static void noTrainIsReleasedThatIsBarred() {
        WheelWorks x = Build.fullTrain();
        x.take(18);
        check.due("barred", x.release(0), 1);
        check.throwing("it does not run", Check.STATE, () -> x.run(0, 1, 0));
        x.fit(18, 15);
        check.throwing("nor when nothing bars it", Check.STATE, () -> x.run(0, 1, 0));
        check.due("released", x.release(0), 0);
        check.due("it runs", x.run(0, 1, 0), WheelWorks.NONE);
    }

    @Says(promise = 16, value = "Throws IndexOutOfBoundsException if there is no such part")
    static void noSuchTrainIsReleased() {
        check.noSuchPart(Build::released, WheelWorks::release);
        check.noSuchPart(WheelWorks::new, WheelWorks::release);
    }

    @Says(promise = 16, value = "Throws IllegalArgumentException if it is no train")
    static void whatIsNoTrainIsNotReleased() {
        check.otherKinds("0", WheelWorks::release);
        for (int part : new int[] {1, 2, 3, 5}) {
            check.refused("part " + part, Check.ARGUMENT, Build::released, x -> x.release(part));
        }
    }

    // ---- what bars a train

    @Says(promise = Says.TERMS, value = "1 a place in the tree is empty")
    static void eachPlaceOfTheTree() {
        int[] hosts = {0, 1, 2, 2, 2, 1, 6, 6, 6, 0, 10, 11, 11, 11, 10, 15, 15, 15};
        for (int part = 1; part < Build.PARTS_OF_TRAIN; part++) {
            WheelWorks x = Build.fullTrain();
            int host = x.take(part);
            check.due("host of " + part, host, hosts[part - 1]);
            barred(part + " is taken", x, 1, host);
            x.fit(part, host);
            free(part + " is back", x);
        }
    }

    @Says(promise = Says.TERMS, value = "1 a place in the tree is empty")
    static void treesOfLittle() {
        barred("a train alone", Build.trains(1), 1, 0);
        WheelWorks x = Build.fullTrain();
        x.take(1);
        x.take(10);
        barred("no coaches", x, 1, 0);
        barred("scrapped", Build.scrapped(), 1, 0);
    }

    @Says(promise = Says.TERMS, value = "for 1 the one that has the place")
    static void theLowestThatHasAnEmptyPlace() {
        WheelWorks x = Build.fullTrain();
        x.take(18);
        x.take(14);
        x.take(7);
        barred("of 6, 11 and 15", x, 1, 6);
        x.take(15);
        x.fit(7, 6);
        barred("of 10 and 11", x, 1, 10);
        x.take(1);
        barred("of 0, 10 and 11", x, 1, 0);
    }

    @Says(promise = Says.TERMS, value = "2 a part of it is quarantined")
    static void quarantinedParts() {
        WheelWorks x = Build.fullTrain();
        x.flaw(17, 10);
        x.flaw(5, 10);
        x.look(17, false);
        barred("17", x, 2, 17);
        x.look(5, false);
        barred("5 and 17", x, 2, 5);
        x.clear(5);
        x.clear(17);
        free("cleared", x);
        WheelWorks y = Build.broken();
        for (int part = 0; part < Build.PARTS_OF_TRAIN; part++) {
            barred("parts from " + part + " on", y, 2, part);
            y.clear(part);
        }
        free("all cleared", y);
    }

    @Says(promise = Says.TERMS, value = "3 is recalled")
    static void recalledParts() {
        WheelWorks x = Build.fullTrain();
        int[] lowest = {5, 3, 2, 1, 0};
        for (int kind = WheelWorks.MOTOR; kind >= WheelWorks.TRAIN; kind--) {
            x.recall(kind);
            barred("kinds from " + kind + " on", x, 3, lowest[WheelWorks.MOTOR - kind]);
        }
        WheelWorks y = Build.fullTrain();
        y.recall(9);
        free("another melt", y);
        Build.change(y, 17);
        y.recall(WheelWorks.WHEELSET);
        for (int wheelset : new int[] {3, 4, 7, 8, 12, 13, 16, 19}) {
            barred("wheelsets from " + wheelset + " on", y, 3, wheelset);
            int bogie = y.take(wheelset);
            y.look(wheelset, true);
            y.fit(wheelset, bogie);
        }
        free("none any more, but the one in the store", y);
    }

    @Says(promise = Says.TERMS, value = "4 has more kilometres of life than its limit")
    static void atTheLimitOfLife() {
        int[] lowest = {0, 1, 2, 3, 5};
        for (int kind = WheelWorks.TRAIN; kind <= WheelWorks.MOTOR; kind++) {
            WheelWorks x = behind(1000, 0);
            x.limits(kind, 1000, 0, 0);
            free("at it, kind " + kind, x);
            x.limits(kind, 999, 0, 0);
            barred("one above it, kind " + kind, x, 4, lowest[kind]);
            x.limits(kind, 0, 0, 0);
            free("no limit, kind " + kind, x);
        }
    }

    @Says(promise = Says.TERMS, value = "4 has more kilometres of life than its limit")
    static void theLeastAndTheGreatestLimitOfLife() {
        WheelWorks x = Build.fullTrain();
        x.limits(WheelWorks.COACH, 1, 0, 0);
        Build.ride(x, 0, 1, 0);
        free("1 of 1", x);
        x.run(0, 1, 0);
        barred("2 of 1", x, 4, 1);
        WheelWorks y = Build.aged();
        y.limits(WheelWorks.BOGIE, 99999, 0, 0);
        Build.ride(y, 0, 1999, 0);
        check.due("life", y.ofPart(2, 3), 99999);
        free("99999 of 99999", y);
        y.run(0, 1, 0);
        barred("100000 of 99999", y, 4, 2);
        check.due("life anew", y.lifeAnew(2), 100000);
    }

    @Says(promise = Says.TERMS, value = "4 has more kilometres of life than its limit")
    static void examinedOnesToo() {
        WheelWorks x = behind(10, 0);
        x.limits(WheelWorks.TRAIN, 10, 10, 10);
        x.examine(0);
        free("10 of 10", x);
        x.run(0, 1, 0);
        check.due("since the examination", x.ofPart(0, 4), 1);
        barred("11 of 10", x, 4, 0);
    }

    @Says(promise = Says.TERMS, value = "4 has more kilometres of life than its limit")
    static void theLowestBeyondItsLimit() {
        WheelWorks x = Build.fullTrain();
        Build.ride(x, 0, 10, 0);
        x.take(5);
        x.fit(x.part(WheelWorks.MOTOR, 0, 0), 2);
        Build.ride(x, 0, 1, 0);
        x.limits(WheelWorks.MOTOR, 10, 0, 0);
        barred("that in bogie 2 is new", x, 4, 9);
        check.due("life in the store", x.ofPart(5, 3), 10);
    }

    @Says(promise = Says.TERMS, value = "5 a wheelset of it has a diameter below 8500")
    static void diametersAt8500() {
        WheelWorks x = Build.fullTrain();
        for (int i = 0; i < 6; i++) {
            Build.ride(x, 0, 2000, 2);
            Build.turnAll(x);
        }
        check.due("six times 20 and twice 30", x.wheel(3, 0), 8520);
        Build.ride(x, 0, 1999, 0);
        check.due("one above", x.wheel(3, 0), 8501);
        free("8501", x);
        x.run(0, 1, 0);
        check.due("at the edge", x.wheel(3, 0), 8500);
        free("8500", x);
        x.run(0, 99, 0);
        free("8500 still", x);
        x.run(0, 1, 0);
        check.due("one less", x.wheel(3, 0), 8499);
        check.due("its flange is not worn", x.wheel(3, 1), 290);
        barred("8499", x, 5, 3);
    }

    @Says(promise = Says.TERMS, value = "or a flange below 250")
    static void flangesAt250() {
        WheelWorks x = behind(2000, 2);
        Build.ride(x, 0, 2000, 1);
        check.due("at the edge", x.wheel(3, 1), 250);
        free("250", x);
        x.run(0, 199, 0);
        free("250 still", x);
        x.run(0, 1, 0);
        check.due("one less", x.wheel(3, 1), 249);
        barred("249", x, 5, 3);
        x.gate(3, 5);
        barred("what the gate tells does not count", x, 5, 3);
        x.turn(2);
        barred("the lowest of those that are left", x, 5, 7);
        Build.turnAll(x);
        free("all are turned", x);
    }

    @Says(promise = Says.TERMS, value = "6 both wheelsets of a bogie are apart by more than 20 in diameter")
    static void apartBy20InABogie() {
        WheelWorks x = behind(2000, 0);
        Build.change(x, 13);
        check.due("a new one", x.wheel(19, 0) - x.wheel(12, 0), 20);
        free("apart by 20", x);
        x.run(0, 100, 0);
        free("apart by 20 still", x);
        Build.change(x, 17);
        check.due("another new one", x.wheel(20, 0) - x.wheel(16, 0), 21);
        barred("apart by 21", x, 6, 15);
        Build.change(x, 4);
        barred("in two bogies", x, 6, 2);
        x.turn(2);
        x.turn(15);
        free("turned", x);
    }

    @Says(promise = Says.TERMS, value = "6 both wheelsets of a bogie are apart by more than 20 in diameter")
    static void apartByPart0() {
        for (int kilometres = 2000; kilometres <= 2100; kilometres += 100) {
            WheelWorks x = new WheelWorks();
            int spare = x.part(WheelWorks.WHEELSET, 0, 0);
            int train = Build.train(x, 0);
            Build.ride(x, train, 2000, 0);
            if (kilometres > 2000) {
                Build.ride(x, train, kilometres - 2000, 0);
            }
            int bogie = x.take(4);
            x.fit(spare, bogie);
            check.due("bars behind " + kilometres, x.bars(train), kilometres > 2000 ? 6 : 0);
            check.due("barredBy behind " + kilometres, x.barredBy(train), kilometres > 2000 ? bogie : -1);
        }
    }

    @Says(promise = Says.TERMS, value = "or all those of a coach by more than 60")
    static void apartBy60InACoach() {
        WheelWorks x = behind(6000, 0);
        int first = Build.change(x, 12);
        int second = Build.change(x, 13);
        check.due("apart", x.wheel(second, 0) - x.wheel(16, 0), 60);
        free("apart by 60", x);
        x.run(0, 100, 0);
        free("apart by 60 still", x);
        x.take(first);
        x.take(second);
        x.fit(x.part(WheelWorks.WHEELSET, 0, 0), 11);
        x.fit(x.part(WheelWorks.WHEELSET, 0, 0), 11);
        check.due("apart", 9000 - x.wheel(16, 0), 61);
        barred("apart by 61", x, 6, 10);
        x.turn(15);
        barred("turned, and apart by more", x, 6, 10);
    }

    @Says(promise = Says.TERMS, value = "or all those of a coach by more than 60")
    static void coachesMayBeApart() {
        WheelWorks x = behind(8000, 0);
        for (int wheelset : new int[] {3, 4, 7, 8}) {
            Build.change(x, wheelset);
        }
        check.due("apart", 9000 - x.wheel(17, 0), 80);
        free("coach 1 has new ones, coach 10 old ones", x);
        x.take(2);
        x.take(11);
        x.fit(2, 10);
        x.fit(11, 1);
        barred("mixed", x, 6, 1);
    }

    @Says(promise = Says.TERMS, value = "for 6 the bogie or coach, whichever is lower")
    static void theLowestOfBogiesAndCoaches() {
        WheelWorks x = behind(8000, 0);
        Build.change(x, 3);
        barred("coach 1 and bogie 2", x, 6, 1);
        x.turn(2);
        check.due("both turned down to one", x.wheel(4, 0), 8840);
        barred("coach 1", x, 6, 1);
        x.turn(6);
        free("the other bogie too", x);
        WheelWorks y = new WheelWorks();
        int bogie = Build.bogie(y, 0);
        int train = Build.train(y, 0);
        int coach = y.take(train + 2);
        y.fit(bogie, coach);
        for (int i = 0; i < 4; i++) {
            Build.ride(y, train, 2000, 0);
        }
        Build.change(y, bogie + 1);
        check.due("a bogie below its coach", bogie < coach, true);
        check.due("bogie and coach", y.bars(train), 6);
        check.due("the lower one", y.barredBy(train), bogie);
    }

    @Says(promise = Says.TERMS, value = "7 an examination of a part is due")
    static void atTheIntervalOfExaminations() {
        int[] lowest = {0, 1, 2, 3, 5};
        for (int kind = WheelWorks.TRAIN; kind <= WheelWorks.MOTOR; kind++) {
            WheelWorks x = behind(1000, 0);
            x.limits(kind, 0, 1000, 1000);
            free("at it, kind " + kind, x);
            x.limits(kind, 0, 999, 999);
            barred("one above it, kind " + kind, x, 7, lowest[kind]);
            x.limits(kind, 0, 0, 999);
            free("no interval, kind " + kind, x);
        }
    }

    @Says(promise = Says.TERMS, value = "7 an examination of a part is due")
    static void theGreatestInterval() {
        WheelWorks x = Build.aged();
        x.limits(WheelWorks.COACH, 0, 99999, 0);
        Build.ride(x, 0, 1999, 0);
        check.due("since it was new", x.ofPart(1, 4), 99999);
        free("99999 of 99999", x);
        x.run(0, 1, 0);
        barred("100000 of 99999", x, 7, 1);
        check.due("examined", x.examine(1), 100000);
        barred("the other coach", x, 7, 10);
        x.waive(10, 1);
        free("1 waived", x);
    }

    @Says(promise = Says.TERMS, value = "7 an examination of a part is due")
    static void waivedAndExamined() {
        WheelWorks x = behind(1000, 0);
        x.limits(WheelWorks.COACH, 0, 1000, 1000);
        x.limits(WheelWorks.MOTOR, 0, 1001, 0);
        free("at the interval", x);
        x.run(0, 1, 0);
        barred("above it", x, 7, 1);
        x.waive(1, 1);
        barred("one waived", x, 7, 10);
        x.examine(10);
        free("one examined", x);
        x.run(0, 1, 0);
        barred("above what was waived", x, 7, 1);
        x.examine(1);
        barred("motors", x, 7, 5);
    }

    // ---- which bar is told

    @Says(promise = Says.TERMS, value = "To release a train tells the first of these that bars it, 0 if none does")
    static void theFirstOf1And2And3And4() {
        WheelWorks x = behind(10, 0);
        x.limits(WheelWorks.MOTOR, 9, 0, 0);
        barred("4", x, 4, 5);
        x.recall(WheelWorks.WHEELSET);
        barred("3 and 4", x, 3, 3);
        x.flaw(18, 10);
        x.look(18, false);
        barred("2 and 3", x, 2, 18);
        x.take(17);
        barred("1 and 2", x, 1, 15);
    }

    @Says(promise = Says.TERMS, value = "To release a train tells the first of these that bars it, 0 if none does")
    static void theFirstOf4And5And6And7() {
        WheelWorks x = behind(4000, 2);
        x.limits(WheelWorks.TRAIN, 0, 1, 0);
        Build.turnAll(x);
        barred("7", x, 7, 0);
        Build.change(x, 17);
        barred("6 and 7", x, 6, 10);
        WheelWorks y = behind(4000, 2);
        Build.change(y, 17);
        barred("5 and 6", y, 5, 3);
        y.limits(WheelWorks.MOTOR, 1, 0, 0);
        barred("4 and 5", y, 4, 5);
        y.limits(WheelWorks.MOTOR, 0, 1, 0);
        barred("5 and 7", y, 5, 3);
    }

    @Says(promise = Says.TERMS, value = "and the part: the lowest one that is so")
    static void onlyPartsOfItsOwnTree() {
        WheelWorks x = Build.fullTrain();
        int other = Build.train(x, 0);
        x.limits(WheelWorks.COACH, 5, 5, 5);
        Build.ride(x, other, 100, 0);
        x.flaw(other + 3, 10);
        x.look(other + 3, false);
        x.take(other + 18);
        x.flaw(other + 18, 10);
        x.look(other + 18, true);
        free("another train has bars", x);
        check.due("the other", x.bars(other), 1);
        check.due("by", x.barredBy(other), other + 15);
        check.due("is not released", x.isReleased(other), false);
        x.run(0, 6, 0);
        barred("its own", x, 4, 1);
    }

    // ---- when a release is gone

    @Says(promise = Says.TERMS, value = "A release is gone as it runs")
    static void goneAsItRuns() {
        WheelWorks x = Build.released();
        int other = Build.train(x, 0);
        x.release(other);
        x.run(0, 1, 0);
        check.due("it ran", x.isReleased(0), false);
        check.due("nothing bars it", x.bars(0), 0);
        check.due("another one", x.isReleased(other), true);
    }

    @Says(promise = Says.TERMS, value = "as a part is fitted into its tree, taken from it")
    static void goneAsAPartIsTakenAndFitted() {
        for (int part = 1; part < Build.PARTS_OF_TRAIN; part++) {
            WheelWorks x = Build.released();
            int host = x.take(part);
            check.due(part + " is taken", x.isReleased(0), false);
            x.fit(part, host);
            check.due(part + " is back", x.isReleased(0), false);
            check.due(part + " is back, released anew", x.release(0), 0);
        }
    }

    @Says(promise = Says.TERMS, value = "as a part is fitted into its tree, taken from it")
    static void notByOtherTrees() {
        WheelWorks x = Build.released();
        int other = Build.train(x, 0);
        x.take(other + 18);
        x.fit(other + 18, other + 15);
        x.take(other + 1);
        check.due("another train's parts", x.isReleased(0), true);
        check.throwing("a fit that is refused", Check.STATE, () -> x.fit(other + 1, 0));
        check.throwing("a take that is refused", Check.STATE, () -> x.take(0));
        check.due("behind what is refused", x.isReleased(0), true);
    }

    @Says(promise = Says.TERMS, value = "quarantined or recalled")
    static void goneAsAPartIsQuarantined() {
        for (int part : new int[] {3, 18}) {
            WheelWorks x = Build.released();
            x.flaw(part, 9);
            check.due("nothing is found", x.look(part, false), 0);
            check.due("with 9", x.isReleased(0), true);
            x.flaw(part, 10);
            check.due("a flaw alone", x.isReleased(0), true);
            x.look(part, false);
            check.due("found", x.isReleased(0), false);
            x.clear(part);
            check.due("cleared", x.isReleased(0), false);
            check.due("released anew", x.release(0), 0);
        }
        WheelWorks y = Build.released();
        int spare = y.part(WheelWorks.MOTOR, 0, 0);
        y.flaw(spare, 10);
        y.look(spare, true);
        check.due("one in the store", y.isReleased(0), true);
        WheelWorks z = Build.fullTrain();
        z.flaw(3, 99);
        Build.ride(z, 0, 500, 0);
        check.due("a break", z.isReleased(0), false);
    }

    @Says(promise = Says.TERMS, value = "quarantined or recalled")
    static void goneAsAPartIsRecalled() {
        for (int melt = 0; melt <= 9; melt++) {
            WheelWorks x = Build.released();
            x.recall(melt);
            check.due("melt " + melt, x.isReleased(0), melt > WheelWorks.MOTOR);
        }
        WheelWorks y = Build.released();
        y.part(WheelWorks.MOTOR, 9, 0);
        check.due("one in the store", y.recall(9), 1);
        check.due("released", y.isReleased(0), true);
        WheelWorks z = Build.onRoad();
        z.recall(WheelWorks.MOTOR);
        check.due("on a road", z.isReleased(0), false);
    }

    @Says(promise = Says.TERMS, value = "and as it is to be released again, and barred")
    static void goneAsItIsBarred() {
        WheelWorks x = behind(10, 0);
        x.release(0);
        x.limits(WheelWorks.TRAIN, 1, 0, 0);
        check.due("bars", x.bars(0), 4);
        check.due("barredBy", x.barredBy(0), 0);
        check.due("asked alone", x.isReleased(0), true);
        check.due("to be released again", x.release(0), 4);
        check.due("barred", x.isReleased(0), false);
        x.limits(WheelWorks.TRAIN, 0, 0, 0);
        check.due("barred no more", x.isReleased(0), false);
        x.release(0);
        check.due("released again", x.release(0), 0);
        check.due("and not barred", x.isReleased(0), true);
    }

    @Says(promise = Says.TERMS, value = "no train is released with a part beyond its limit, by what is so then")
    static void itRunsByWhatWasSoThen() {
        WheelWorks x = behind(10, 0);
        x.release(0);
        x.limits(WheelWorks.TRAIN, 1, 0, 0);
        check.due("it runs", x.run(0, 1, 0), WheelWorks.NONE);
        check.due("not again", x.release(0), 4);
    }

    @Says(promise = Says.TERMS, value = "A release is gone as it runs")
    static void notByOtherWork() {
        WheelWorks x = Build.fullTrain();
        x.limits(WheelWorks.MOTOR, 0, 9, 9);
        x.release(0);
        x.turn(2);
        x.gate(3, 0);
        x.examine(5);
        x.waive(5, 1);
        x.flaw(5, 50);
        x.look(4, false);
        x.part(WheelWorks.TRAIN, 0, 0);
        x.scrap(19);
        x.comes(0, 0);
        x.night();
        x.out();
        check.due("behind all that", x.isReleased(0), true);
        check.due("it runs", x.run(0, 2000, 2), WheelWorks.NONE);
    }

    // ---- promises 27 to 29: bars, barredBy, isReleased

    @Says(promise = 27, value = "Returns 0 to 7, as release() would tell.")
    static void barsChangesNothing() {
        WheelWorks x = Build.fullTrain();
        check.due("bars", x.bars(0), 0);
        check.due("not released by that", x.isReleased(0), false);
        x.limits(WheelWorks.TRAIN, 1, 0, 0);
        Build.ride(x, 0, 1, 0);
        x.release(0);
        x.limits(WheelWorks.COACH, 0, 1, 0);
        x.run(0, 1, 0);
        check.due("barred", x.bars(0), 4);
    }

    @Says(promise = 27, value = "Throws IndexOutOfBoundsException if there is no such part")
    static void nothingBarsNoTrain() {
        check.noSuchPart(Build::released, WheelWorks::bars);
        check.noSuchPart(WheelWorks::new, WheelWorks::bars);
    }

    @Says(promise = 27, value = "Throws IllegalArgumentException if it is no train")
    static void nothingBarsWhatIsNoTrain() {
        check.otherKinds("0", WheelWorks::bars);
    }

    @Says(promise = 28, value = "Returns the part; NONE if none does.")
    static void thePartOrNone() {
        check.due("none", Build.fullTrain().barredBy(0), WheelWorks.NONE);
        check.due("part 0", Build.trains(1).barredBy(0), 0);
        check.due("on a road, none", Build.onRoad().barredBy(0), WheelWorks.NONE);
        check.due("the second of two trains", Build.trains(2).barredBy(1), 1);
    }

    @Says(promise = 28, value = "Throws IndexOutOfBoundsException if there is no such part")
    static void noTrainIsBarredByAny() {
        check.noSuchPart(Build::released, WheelWorks::barredBy);
        check.noSuchPart(WheelWorks::new, WheelWorks::barredBy);
    }

    @Says(promise = 28, value = "Throws IllegalArgumentException if it is no train")
    static void whatIsNoTrainIsBarredByNone() {
        check.otherKinds("0", WheelWorks::barredBy);
    }

    @Says(promise = 29, value = "Tells whether a train is released.")
    static void eachTrainHasItsOwnRelease() {
        WheelWorks x = Build.fullTrain();
        int other = Build.train(x, 0);
        x.release(other);
        check.due("the one", x.isReleased(0), false);
        check.due("the other", x.isReleased(other), true);
        check.due("a train alone", Build.trains(1).isReleased(0), false);
        check.due("a scrapped one", Build.scrapped().isReleased(0), false);
    }

    @Says(promise = 29, value = "Throws IndexOutOfBoundsException if there is no such part")
    static void noSuchTrainIsReleasedNow() {
        check.noSuchPart(Build::released, WheelWorks::isReleased);
        check.noSuchPart(WheelWorks::new, WheelWorks::isReleased);
    }

    @Says(promise = 29, value = "Throws IllegalArgumentException if it is no train")
    static void whatIsNoTrainIsNeverReleased() {
        check.otherKinds("0", WheelWorks::isReleased);
        for (int part : new int[] {1, 2, 3, 5}) {
            check.refused("in a released train", Check.ARGUMENT, Build::released, x -> x.isReleased(part));
        }
    }
}
