/** Promises 17 to 19 and 30 to 32: the evening, the plan, the night, the roads and the morning. */
public final class RoadTest {
    private static final Check check = new Check();

    public static void main(String[] args) {
        check.runAll(RoadTest.class);
    }

    /** So many trains that wait, whose times rise, so that the order on the roads costs the most. */
    private static WheelWorks rising(int many) {
        int[] times = new int[many];
        for (int i = 0; i < many; i++) {
            times[i] = 10 * i;
        }
        return Build.evening(times);
    }

    /** So many trains that wait, whose times fall, so that none is ever in front of one that goes out first. */
    private static WheelWorks falling(int many) {
        int[] times = new int[many];
        for (int i = 0; i < many; i++) {
            times[i] = 99 - 10 * i;
        }
        return Build.evening(times);
    }

    private static WheelWorks parked(WheelWorks x) {
        x.night();
        return x;
    }

    /** A train 0 that waits with the time 50, a coach 1, a train 2 in the store, and a train 3, scrapped. */
    private static WheelWorks oneWaits() {
        WheelWorks x = new WheelWorks();
        x.part(WheelWorks.TRAIN, 0, 0);
        x.part(WheelWorks.COACH, 0, 0);
        x.part(WheelWorks.TRAIN, 0, 0);
        x.part(WheelWorks.TRAIN, 0, 0);
        x.scrap(3);
        x.comes(0, 50);
        return x;
    }

    private static WheelWorks oneStands() {
        return parked(oneWaits());
    }

    /** Eight trains that wait, with times from 0 on, and a ninth one, 8, that does not. */
    private static WheelWorks eightWait() {
        WheelWorks x = Build.evening(0, 1, 2, 3, 4, 5, 6, 7);
        x.part(WheelWorks.TRAIN, 0, 0);
        return x;
    }

    // ---- promise 17: comes

    @Says(promise = 17, value = "time: 0 to 99")
    static void timesOfTrains() {
        check.range("time", 0, 99, RoadTest::oneWaits, (x, time) -> x.comes(2, time));
        WheelWorks x = Build.trains(2);
        x.comes(0, 99);
        x.comes(1, 0);
        x.night();
        x.out();
        check.due("time 0 went out", x.comes(1, 1), 1);
        check.throwing("time 99 did not", Check.STATE, () -> x.comes(0, 2));
    }

    @Says(promise = 17, value = "Returns how many wait.")
    static void howManyWait() {
        WheelWorks x = Build.trains(8);
        for (int i = 0; i < 8; i++) {
            check.due("with train " + i, x.comes(i, 99 - i), i + 1);
        }
        x.night();
        check.due("none of those on roads", x.comes(x.part(WheelWorks.TRAIN, 0, 0), 99), 1);
        check.due("a full train", Build.fullTrain().comes(0, 0), 1);
    }

    @Says(promise = 17, value = "Throws IndexOutOfBoundsException if there is no such part")
    static void noSuchTrainComes() {
        check.noSuchPart(RoadTest::oneWaits, (x, train) -> x.comes(train, 1));
        check.noSuchPart(WheelWorks::new, (x, train) -> x.comes(train, 0));
        check.refused("time out of range too", Check.INDEX, RoadTest::oneWaits, x -> x.comes(4, 100));
        check.refused("time out of range too", Check.INDEX, RoadTest::oneWaits, x -> x.comes(-1, -1));
        check.refused("8 wait", Check.INDEX, RoadTest::eightWait, x -> x.comes(9, 50));
        check.refused("that time", Check.INDEX, RoadTest::oneWaits, x -> x.comes(4, 50));
    }

    @Says(promise = 17, value = "it is no train, or time is out of range")
    static void illegalArgumentsComeBeforeTheState() {
        check.otherKinds("0", (x, part) -> x.comes(part, 0));
        check.refused("no train, that time", Check.ARGUMENT, RoadTest::oneWaits, x -> x.comes(1, 50));
        check.refused("no train, 8 wait", Check.ARGUMENT, RoadTest::eightWait, x -> x.part(1, 0, 0),
            x -> x.comes(9, 50));
        check.refused("no train, scrapped", Check.ARGUMENT, Build::scrapped, x -> x.comes(1, 50));
        check.refused("no train, bound", Check.ARGUMENT, Build::onRoad, x -> x.comes(1, 50));
        check.refused("time 100, it waits", Check.ARGUMENT, RoadTest::oneWaits, x -> x.comes(0, 100));
        check.refused("time -1, it waits", Check.ARGUMENT, RoadTest::oneWaits, x -> x.comes(0, -1));
        check.refused("time 100, scrapped", Check.ARGUMENT, RoadTest::oneWaits, x -> x.comes(3, 100));
        check.refused("time 100, on a road", Check.ARGUMENT, RoadTest::oneStands, x -> x.comes(0, 100));
        check.refused("time -1, 8 wait", Check.ARGUMENT, RoadTest::eightWait, x -> x.comes(8, -1));
    }

    @Says(promise = 17, value = "Throws IllegalStateException if 8 wait")
    static void noNinthTrainComes() {
        check.refused("the ninth", Check.STATE, RoadTest::eightWait, x -> x.comes(8, 50));
        WheelWorks x = eightWait();
        x.night();
        check.due("the eight stand", x.comes(8, 50), 1);
    }

    @Says(promise = 17, value = "one has that time")
    static void noTwoHaveOneTime() {
        for (int time = 0; time < 7; time++) {
            int taken = time;
            check.refused("time " + time + " of 7", Check.STATE, () -> Build.evening(0, 1, 2, 3, 4, 5, 6),
                x -> x.part(WheelWorks.TRAIN, 0, 0), x -> x.comes(7, taken));
        }
        check.refused("time 99", Check.STATE, () -> Build.evening(99), x -> x.part(WheelWorks.TRAIN, 0, 0),
            x -> x.comes(1, 99));
        WheelWorks x = oneWaits();
        check.due("one less", x.comes(2, 49), 2);
        check.due("one more", x.comes(x.part(WheelWorks.TRAIN, 0, 0), 51), 3);
    }

    @Says(promise = Says.TERMS, value = "Trains that come in the evening wait in the order in which they come, at"
        + " most 8, each with a time, 0 to 99, at which it goes out, all unlike.")
    static void timesOfThoseOnRoadsAreFree() {
        WheelWorks x = Build.evening(7, 8);
        x.part(WheelWorks.TRAIN, 0, 0);
        x.night();
        check.due("that time is on a road alone", x.comes(2, 7), 1);
        check.due("out", x.out(), 0);
        check.due("the other one stands", x.road(1, 0), 1);
        x.out();
        check.due("night", x.night(), 0);
        check.due("it stands now", x.road(0, 0), 2);
    }

    @Says(promise = 17, value = "it waits")
    static void noTrainWaitsTwice() {
        check.refused("with another time", Check.STATE, RoadTest::oneWaits, x -> x.comes(0, 51));
        check.refused("with its time", Check.STATE, RoadTest::oneWaits, x -> x.comes(0, 50));
        check.refused("the last of seven", Check.STATE, () -> rising(7), x -> x.comes(6, 99));
    }

    @Says(promise = 17, value = "stands on a road")
    static void noTrainComesThatStandsOnARoad() {
        check.refused("with another time", Check.STATE, RoadTest::oneStands, x -> x.comes(0, 51));
        for (int train = 0; train < 8; train++) {
            int standing = train;
            check.refused("of 8, train " + train, Check.STATE, () -> parked(rising(8)), x -> x.comes(standing, 99));
        }
        WheelWorks x = oneStands();
        x.out();
        check.due("it is out", x.comes(0, 50), 1);
    }

    @Says(promise = 17, value = "is scrapped")
    static void noScrapComes() {
        check.refused("scrapped", Check.STATE, RoadTest::oneWaits, x -> x.comes(3, 51));
        check.due("not scrapped", oneWaits().comes(2, 51), 2);
    }

    // ---- promise 18: night

    @Says(promise = 18, value = "Throws IllegalStateException if none wait")
    static void noNightIfNoneWait() {
        check.refused("no trains", Check.STATE, WheelWorks::new, WheelWorks::night);
        check.refused("trains in the store", Check.STATE, () -> Build.trains(3), WheelWorks::night);
        check.refused("behind a night and a morning", Check.STATE, Build::outAgain, WheelWorks::night);
        check.due("one waits", oneWaits().night(), 0);
    }

    @Says(promise = 18, value = "or a train stands on a road")
    static void noNightIfATrainStands() {
        check.refused("none waits", Check.STATE, RoadTest::oneStands, WheelWorks::night);
        check.refused("one waits", Check.STATE, RoadTest::oneStands, x -> x.comes(2, 9), WheelWorks::night);
        check.refused("the last of two stands", Check.STATE, () -> parked(rising(2)), RoadTest::oneOutAndBack,
            WheelWorks::night);
        WheelWorks x = oneStands();
        x.comes(2, 9);
        x.out();
        check.due("it is out", x.night(), 0);
        check.due("the other one stands", x.road(0, 0), 2);
    }

    private static void oneOutAndBack(WheelWorks x) {
        x.out();
        x.comes(0, 5);
    }

    @Says(promise = 18, value = "Parks all that wait by the plan; none wait then.")
    static void noneWaitThen() {
        WheelWorks x = rising(8);
        x.night();
        check.due("plan", x.plan(), 0);
        check.due("planAnew", x.planAnew(), 0);
        int parked = 0;
        for (int road = 0; road < 3; road++) {
            for (int place = 0; place < 4; place++) {
                parked += x.road(road, place) == WheelWorks.NONE ? 0 : 1;
            }
        }
        check.due("all are parked", parked, 8);
    }

    @Says(promise = 18, value = "Returns the moves of the plan.")
    static void movesOfTheNight() {
        int[] due = {0, 0, 0, 1, 2, 3, 5, 7};
        for (int many = 1; many <= 8; many++) {
            check.due("of " + many + " that rise", rising(many).night(), due[many - 1]);
            check.due("of " + many + " that fall", falling(many).night(), 0);
        }
    }

    @Says(promise = Says.TERMS, value = "There are the roads 0 to 2, each for 4 trains, one behind the other.")
    static void fourOnARoad() {
        WheelWorks x = parked(falling(8));
        for (int place = 0; place < 4; place++) {
            check.due("road 0", x.road(0, place), place);
            check.due("road 1", x.road(1, place), place + 4);
            check.due("road 2", x.road(2, place), WheelWorks.NONE);
        }
        check.due("no fifth one on road 0", x.road(0, 4), WheelWorks.NONE);
        check.due("no fifth one on road 1", x.road(1, 4), WheelWorks.NONE);
        WheelWorks y = parked(falling(4));
        check.due("the fourth of four", y.road(0, 3), 3);
        WheelWorks z = parked(falling(5));
        check.due("the fifth of five", z.road(1, 0), 4);
    }

    @Says(promise = Says.TERMS, value = "In the night they are parked in that order, each on a road with room for"
        + " it, in front of those on it.")
    static void roomIsNeeded() {
        WheelWorks x = Build.evening(60, 50, 40, 30, 20, 10, 80, 90);
        check.due("planAnew, asked first", x.planAnew(), 1);
        check.due("plan", x.plan(), 1);
        check.due("night, a longer road would spare a move", x.night(), 1);
        check.due("four on road 0", x.road(0, 3), 3);
        check.due("two on road 1", x.road(1, 1), 5);
        check.due("80 on road 2", x.road(2, 0), 6);
        check.due("90 in front of it", x.road(2, 1), 7);
        WheelWorks y = Build.evening(50, 40, 30, 20, 10, 80, 90);
        check.due("five that fall, and two", y.planAnew(), 1);
        check.due("five that fall, and two", y.plan(), 1);
        WheelWorks z = Build.evening(40, 30, 20, 10, 80, 90);
        check.due("four that fall, and two", z.planAnew(), 0);
        check.due("four that fall, and two", z.night(), 0);
    }

    @Says(promise = Says.TERMS, value = "of several that which has the lower road where they differ first")
    static void theLowerRoadWhereTheyDifferFirst() {
        WheelWorks x = parked(Build.evening(50, 60, 40, 45));
        check.due("50 on road 0", x.road(0, 0), 0);
        check.due("60 on road 1", x.road(1, 0), 1);
        check.due("40 before 50 on road 0", x.road(0, 1), 2);
        check.due("45 before 60 on road 1", x.road(1, 1), 3);
        check.due("road 2", x.road(2, 0), WheelWorks.NONE);
        WheelWorks y = parked(Build.evening(10));
        check.due("one alone on road 0", y.road(0, 0), 0);
        WheelWorks z = parked(rising(4));
        check.due("the first two of four on road 0", z.road(0, 1), 1);
    }

    // ---- promise 19: out

    @Says(promise = 19, value = "The train with the least time of all on roads goes out.")
    static void outByTheirTimes() {
        WheelWorks x = Build.evening(30, 10, 40, 20);
        check.due("night", x.night(), 0);
        int[] times = {30, 10, 40, 20};
        for (int train : new int[] {1, 3, 0, 2}) {
            check.throwing(train + " stands", Check.STATE, () -> x.comes(train, 0));
            check.due("out of " + train, x.out(), 0);
            check.due("it may come", x.comes(train, times[train]) > 0, true);
        }
        WheelWorks y = parked(Build.evening(99, 0));
        y.out();
        check.due("0 went out, 99 stands", y.road(0, 0), 0);
    }

    @Says(promise = 19, value = "The train with the least time of all on roads goes out.")
    static void thoseThatWaitStay() {
        WheelWorks x = oneStands();
        x.comes(2, 0);
        x.out();
        check.due("the one that waits", x.plan(), 0);
        check.throwing("it waits still", Check.STATE, () -> x.comes(2, 1));
        check.throwing("none stands", Check.STATE, x::out);
        check.due("the one that went out", x.comes(0, 1), 2);
    }

    @Says(promise = 19, value = "Returns how many stood in front of it.")
    static void howManyStoodInFront() {
        WheelWorks x = rising(8);
        check.due("3, 3 and 1 moves", x.night(), 7);
        int[] due = {2, 1, 0, 2, 1, 0, 1, 0};
        int[] firstOfRoad0 = {1, 2, -1, -1, -1, -1, -1, -1};
        int[] firstOfRoad1 = {3, 3, 3, 4, 5, -1, -1, -1};
        for (int i = 0; i < 8; i++) {
            check.due("out " + i, x.out(), due[i]);
            check.due("road 0 behind out " + i, x.road(0, 0), firstOfRoad0[i]);
            check.due("road 1 behind out " + i, x.road(1, 0), firstOfRoad1[i]);
        }
    }

    @Says(promise = Says.TERMS, value = "A train that goes out before one in front of it needs a move for each one"
        + " that is in front of it then.")
    static void thoseThatAreOutThenNeedNoMove() {
        WheelWorks x = parked(Build.evening(50, 40, 30, 20, 10, 9, 8, 7));
        for (int i = 0; i < 8; i++) {
            check.due("the one in front of all", x.out(), 0);
        }
        WheelWorks y = parked(Build.evening(20, 10, 30, 70, 40, 80, 50, 90));
        int moves = 0;
        for (int i = 0; i < 8; i++) {
            moves += y.out();
        }
        check.due("moves of the morning", moves, Parking.moves(new int[] {20, 10, 30, 70, 40, 80, 50, 90},
            Parking.best(new int[] {20, 10, 30, 70, 40, 80, 50, 90})));
    }

    @Says(promise = 19, value = "Throws IllegalStateException if none stands on a road")
    static void noneStands() {
        check.refused("no trains", Check.STATE, WheelWorks::new, WheelWorks::out);
        check.refused("one waits", Check.STATE, RoadTest::oneWaits, WheelWorks::out);
        check.refused("all are out", Check.STATE, Build::outAgain, WheelWorks::out);
        check.due("one stands", oneStands().out(), 0);
    }

    // ---- bound

    @Says(promise = Says.TERMS, value = "A part is bound, if the head of its tree is a train that stands on a road.")
    static void eachPartOfATrainOnARoadIsBound() {
        for (int part = 1; part < Build.PARTS_OF_TRAIN; part++) {
            int bound = part;
            check.throwing("on a road, part " + part, Check.STATE, () -> Build.onRoad().take(bound));
            Build.waiting().take(part);
            Build.outAgain().take(part);
        }
        for (int road = 0; road < 3; road++) {
            WheelWorks x = parked(rising(6));
            int train = x.road(road, 1);
            int coach = x.part(WheelWorks.COACH, 0, 0);
            check.throwing("on road " + road, Check.STATE, () -> x.fit(coach, train));
        }
    }

    @Says(promise = Says.TERMS, value = "Parts that are bound cannot be taken or fitted to, cannot run, and cannot"
        + " be turned, examined, looked at or cleared.")
    static void allElseCanBeDoneWithBoundParts() {
        WheelWorks x = Build.onRoad();
        check.due("gate", x.gate(3, 1), 301);
        check.due("flaw", x.flaw(5, 4), 0);
        x.limits(WheelWorks.COACH, 0, 1, 0);
        x.waive(1, 5);
        check.due("waive", x.ofPart(1, 5), 5);
        check.due("release", x.release(0), 0);
        check.due("recall", x.recall(WheelWorks.BOGIE), 4);
        check.due("release, barred", x.release(0), 3);
    }

    // ---- promises 30 and 31: plan, planAnew

    @Says(promise = 30, value = "0 if none wait")
    static void noMovesIfNoneWait() {
        check.due("no trains", new WheelWorks().plan(), 0);
        check.due("trains in the store", Build.trains(8).plan(), 0);
        WheelWorks x = rising(8);
        check.due("eight wait", x.plan(), 7);
        x.night();
        check.due("they stand", x.plan(), 0);
        check.due("they stand, anew", x.planAnew(), 0);
    }

    @Says(promise = 31, value = "Returns the same, all roads of all being tried.")
    static void theSameAnew() {
        check.due("no trains", new WheelWorks().planAnew(), 0);
        int[] due = {0, 0, 0, 1, 2, 3, 5, 7};
        for (int many = 1; many <= 8; many++) {
            check.due("of " + many + " that rise", rising(many).planAnew(), due[many - 1]);
            check.due("of " + many + " that fall", falling(many).planAnew(), 0);
        }
    }

    @Says(promise = 30, value = "as if no train stood on a road")
    static void asIfNoTrainStood() {
        WheelWorks x = Build.trains(16);
        for (int i = 0; i < 8; i++) {
            x.comes(i, i);
        }
        x.night();
        int[] due = {0, 0, 0, 1, 2, 3, 5, 7};
        for (int i = 0; i < 8; i++) {
            x.comes(8 + i, i);
            check.due("plan of " + (i + 1), x.plan(), due[i]);
            check.due("planAnew of " + (i + 1), x.planAnew(), due[i]);
        }
        for (int i = 0; i < 8; i++) {
            x.out();
        }
        check.due("night", x.night(), 7);
        check.due("in front", x.out(), 2);
    }

    @Says(promise = 30, value = "Returns the moves of the plan of those that wait")
    static void eachEveningForItself() {
        WheelWorks x = rising(8);
        check.due("all rise", x.night(), 7);
        for (int i = 0; i < 8; i++) {
            x.out();
        }
        for (int i = 0; i < 8; i++) {
            x.comes(i, 99 - i);
        }
        check.due("all fall, anew", x.planAnew(), 0);
        check.due("all fall", x.plan(), 0);
        check.due("night", x.night(), 0);
        check.due("the fourth on road 0", x.road(0, 3), 3);
    }

    @Says(promise = 30, value = "Returns the moves of the plan of those that wait")
    static void askingForThePlanChangesNothing() {
        WheelWorks x = Build.evening(60, 50, 40, 30, 20, 10, 80, 90);
        for (int i = 0; i < 3; i++) {
            check.due("plan", x.plan(), 1);
            check.due("planAnew", x.planAnew(), 1);
            check.due("road 0", x.road(0, 0), WheelWorks.NONE);
        }
        x.night();
        WheelWorks y = parked(Build.evening(60, 50, 40, 30, 20, 10, 80, 90));
        for (int place = 0; place < 12; place++) {
            check.due("parked alike", x.road(place % 3, place / 3), y.road(place % 3, place / 3));
        }
    }

    @Says(promise = Says.TERMS, value = "The plan is the roads by which the moves of all that go out, by their"
        + " times, these alone, are the fewest")
    static void allPlansAsByTheirWords() {
        Numbers numbers = new Numbers(7);
        for (int round = 0; round < 150; round++) {
            int[] times = mixedTimes(numbers, 1 + numbers.below(8));
            WheelWorks x = Build.evening(times);
            int[] roads = Parking.best(times);
            int moves = Parking.moves(times, roads);
            check.due("plan", x.plan(), moves);
            check.due("planAnew", x.planAnew(), moves);
            check.due("night", x.night(), moves);
            int[] places = new int[3];
            for (int i = 0; i < times.length; i++) {
                check.due("road of " + i, x.road(roads[i], places[roads[i]]++), i);
            }
            int moved = 0;
            for (int i = 0; i < times.length; i++) {
                moved += x.out();
            }
            check.due("all moves of the morning", moved, moves);
        }
    }

    private static int[] mixedTimes(Numbers numbers, int many) {
        int[] times = new int[many];
        for (int i = 0; i < many; i++) {
            times[i] = i * 12 + numbers.below(12);
            int other = numbers.below(i + 1);
            int time = times[other];
            times[other] = times[i];
            times[i] = time;
        }
        return times;
    }

    // ---- promise 32: road

    @Says(promise = 32, value = "place: 0 for the one that came first")
    static void placesFromTheFirstOn() {
        WheelWorks x = rising(5);
        check.due("two moves", x.night(), 2);
        int[][] due = {{0, 1, -1, -1, -1}, {2, 3, -1, -1, -1}, {4, -1, -1, -1, -1}};
        for (int road = 0; road < 3; road++) {
            for (int place = 0; place < 5; place++) {
                check.due("road(" + road + ", " + place + ")", x.road(road, place), due[road][place]);
            }
        }
        x.out();
        check.due("the next one is the first now", x.road(0, 0), 1);
        check.due("none behind it", x.road(0, 1), WheelWorks.NONE);
    }

    @Says(promise = 32, value = "Returns the train; NONE if there are not so many.")
    static void noneIfThereAreNotSoMany() {
        WheelWorks x = parked(falling(8));
        check.due("the fourth", x.road(0, 3), 3);
        check.due("a fifth", x.road(0, 4), WheelWorks.NONE);
        check.due("the first of none", x.road(2, 0), WheelWorks.NONE);
        check.due("the greatest place", x.road(0, Integer.MAX_VALUE), WheelWorks.NONE);
        check.due("in the evening", rising(8).road(0, 0), WheelWorks.NONE);
    }

    @Says(promise = 32, value = "road: 0 to 2")
    static void roadsFrom0To2() {
        check.due("road 0", parked(rising(6)).road(0, 0), 0);
        check.due("road 2", parked(rising(6)).road(2, 0), 4);
        for (int road : new int[] {-1, 3, Integer.MIN_VALUE, Integer.MAX_VALUE}) {
            check.refused("road " + road, Check.INDEX, () -> parked(rising(6)), x -> x.road(road, 0));
            check.refused("road " + road + " of a new works", Check.INDEX, WheelWorks::new, x -> x.road(road, 9));
        }
    }

    @Says(promise = 32, value = "Throws IndexOutOfBoundsException if there is no such road, or place is below 0")
    static void noPlaceBelow0() {
        for (int road = 0; road < 3; road++) {
            int of = road;
            check.refused("place -1", Check.INDEX, () -> parked(rising(6)), x -> x.road(of, -1));
            check.refused("the least place", Check.INDEX, () -> parked(rising(6)), x -> x.road(of, Integer.MIN_VALUE));
            check.refused("place -1, nothing there", Check.INDEX, WheelWorks::new, x -> x.road(of, -1));
        }
        check.refused("neither", Check.INDEX, WheelWorks::new, x -> x.road(Integer.MIN_VALUE, Integer.MIN_VALUE));
    }
}
