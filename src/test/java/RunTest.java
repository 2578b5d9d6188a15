/** Promises 7 and 24, and what the terms tell of runs: kilometres of all parts, wear of treads and flanges. */
public final class RunTest {
    private static final Check check = new Check();

    public static void main(String[] args) {
        check.runAll(RunTest.class);
    }

    /** A full train that has run so far in one run. */
    private static WheelWorks behindRun(int kilometres, int season) {
        WheelWorks x = Build.fullTrain();
        Build.ride(x, 0, kilometres, season);
        return x;
    }

    // ---- promise 7: run

    @Says(promise = 7, value = "kilometres: 1 to 2000")
    static void kilometresOfARun() {
        check.range("kilometres", 1, 2000, Build::released, (x, kilometres) -> x.run(0, kilometres, 0));
        check.due("the fewest", behindRun(1, 0).ofPart(0, 3), 1);
        check.due("the most", behindRun(2000, 0).ofPart(0, 3), 2000);
    }

    @Says(promise = 7, value = "season: 0 to 3")
    static void seasonsOfARun() {
        check.range("season", 0, 3, Build::released, (x, season) -> x.run(0, 1, season));
    }

    @Says(promise = 7, value = "Throws IndexOutOfBoundsException if there is no such part")
    static void noSuchTrainRuns() {
        check.noSuchPart(Build::released, (x, train) -> x.run(train, 1, 0));
        check.noSuchPart(WheelWorks::new, (x, train) -> x.run(train, 1, 0));
        check.refused("kilometres and season out of range", Check.INDEX, Build::released, x -> x.run(19, 0, 4));
    }

    @Says(promise = 7, value = "it is no train")
    static void whatIsNoTrainDoesNotRun() {
        for (int part : new int[] {1, 2, 3, 5}) {
            check.refused("in a train that is released", Check.ARGUMENT, Build::released, x -> x.run(part, 1, 0));
            check.refused("on a road", Check.ARGUMENT, Build::onRoad, x -> x.run(part, 1, 0));
        }
        for (int part = 1; part <= 4; part++) {
            int stored = part;
            check.refused("in the store", Check.ARGUMENT, Build::oneOfEach, x -> x.run(stored, 1, 0));
        }
    }

    @Says(promise = 7, value = "kilometres or season is out of range")
    static void outOfRangeComesBeforeTheTrainsState() {
        check.refused("kilometres, not released", Check.ARGUMENT, Build::fullTrain, x -> x.run(0, 0, 0));
        check.refused("kilometres, not released", Check.ARGUMENT, Build::fullTrain, x -> x.run(0, 2001, 0));
        check.refused("season, not released", Check.ARGUMENT, Build::fullTrain, x -> x.run(0, 1, 4));
        check.refused("season, not released", Check.ARGUMENT, Build::fullTrain, x -> x.run(0, 1, -1));
        check.refused("kilometres, on a road", Check.ARGUMENT, Build::onRoad, x -> x.run(0, 0, 0));
        check.refused("season, on a road", Check.ARGUMENT, Build::onRoad, x -> x.run(0, 1, 4));
        check.refused("kilometres, scrapped", Check.ARGUMENT, Build::scrapped, x -> x.run(0, 2001, 0));
    }

    @Says(promise = 7, value = "it is not released")
    static void aTrainThatIsNotReleasedDoesNotRun() {
        check.refused("never", Check.STATE, Build::fullTrain, x -> x.run(0, 1, 0));
        check.refused("a train alone", Check.STATE, Build::oneOfEach, x -> x.run(0, 1, 0));
        check.refused("scrapped", Check.STATE, Build::scrapped, x -> x.run(0, 1, 0));
        check.refused("it ran for that", Check.STATE, Build::released, x -> x.run(0, 1, 0), x -> x.run(0, 1, 0));
        check.refused("a part was taken", Check.STATE, Build::released, x -> x.take(18), x -> x.run(0, 1, 0));
        check.refused("it was recalled", Check.STATE, Build::released, x -> x.recall(0), x -> x.run(0, 1, 0));
        check.refused("another one is", Check.STATE, Build::released, RunTest::addTrain, x -> x.run(19, 1, 0));
    }

    private static void addTrain(WheelWorks x) {
        Build.train(x, 0);
    }

    @Says(promise = 7, value = "or bound")
    static void aTrainOnARoadDoesNotRun() {
        check.refused("on a road", Check.STATE, Build::onRoad, x -> x.run(0, 1, 0));
        check.due("it waits", Build.waiting().run(0, 1, 0), WheelWorks.NONE);
        check.due("it is out", Build.outAgain().run(0, 1, 0), WheelWorks.NONE);
    }

    @Says(promise = Says.TERMS, value = "A train that is released can run, once for that")
    static void onceForARelease() {
        WheelWorks x = Build.released();
        check.due("released twice", x.release(0), 0);
        check.due("run", x.run(0, 1, 0), WheelWorks.NONE);
        check.due("released behind that", x.isReleased(0), false);
        check.throwing("again", Check.STATE, () -> x.run(0, 1, 0));
        check.due("life", x.ofPart(0, 3), 1);
        x.release(0);
        check.due("released anew", x.run(0, 2, 0), WheelWorks.NONE);
        check.due("life", x.ofPart(0, 3), 3);
    }

    @Says(promise = Says.TERMS, value = "A part has kilometres of its life, and such since its latest examination,"
        + " or since it was new.")
    static void kilometresOfWhatIsNew() {
        WheelWorks x = Build.fullTrain();
        for (int part = 0; part < Build.PARTS_OF_TRAIN; part++) {
            check.due("life of " + part, x.ofPart(part, 3), 0);
            check.due("since of " + part, x.ofPart(part, 4), 0);
        }
    }

    @Says(promise = Says.TERMS, value = "Each part of its tree has so many more.")
    static void eachPartOfTheTreeHasSoManyMore() {
        WheelWorks x = Build.fullTrain();
        Build.ride(x, 0, 2000, 0);
        Build.ride(x, 0, 1, 3);
        for (int part = 0; part < Build.PARTS_OF_TRAIN; part++) {
            check.due("life of " + part, x.ofPart(part, 3), 2001);
            check.due("since of " + part, x.ofPart(part, 4), 2001);
        }
    }

    @Says(promise = Says.TERMS, value = "Each part of its tree has so many more.")
    static void noOtherPartHasMore() {
        WheelWorks x = Build.fullTrain();
        Build.train(x, 0);
        int spare = x.part(WheelWorks.MOTOR, 0, 0);
        x.fit(spare, x.part(WheelWorks.BOGIE, 0, 0));
        x.take(18);
        x.fit(x.part(WheelWorks.MOTOR, 0, 0), 15);
        Build.ride(x, 0, 100, 0);
        for (int part = 18; part <= spare + 1; part++) {
            check.due("life of " + part, x.ofPart(part, 3), 0);
            check.due("since of " + part, x.ofPart(part, 4), 0);
        }
        check.due("life of the one that was fitted", x.ofPart(spare + 2, 3), 100);
    }

    @Says(promise = 7, value = "Returns the lowest part that breaks; NONE if none does.")
    static void theLowestPartThatBreaks() {
        WheelWorks x = Build.fullTrain();
        x.flaw(9, 99);
        x.flaw(17, 99);
        x.flaw(3, 50);
        check.due("of 3, 9 and 17", Build.ride(x, 0, 500, 0), 9);
        WheelWorks y = new WheelWorks();
        int motor = y.part(WheelWorks.MOTOR, 0, 0);
        int train = Build.train(y, 0);
        y.take(6);
        y.fit(motor, 3);
        y.flaw(motor, 99);
        check.due("none yet", Build.ride(y, train, 499, 0), WheelWorks.NONE);
        check.due("part 0", Build.ride(y, train, 1, 0), motor);
        WheelWorks z = Build.fullTrain();
        z.flaw(18, 99);
        check.due("the last part of the tree", Build.ride(z, 0, 2000, 0), 18);
    }

    @Says(promise = 7, value = "Returns the lowest part that breaks; NONE if none does.")
    static void whatIsNotInTheTreeDoesNotBreak() {
        WheelWorks x = Build.fullTrain();
        x.take(5);
        x.flaw(5, 99);
        x.fit(x.part(WheelWorks.MOTOR, 0, 0), 2);
        check.due("the motor is in the store", Build.ride(x, 0, 2000, 0), WheelWorks.NONE);
        check.due("it is as it was", x.flaw(5, 1), 99);
    }

    // ---- wear of treads and flanges

    @Says(promise = Says.TERMS, value = "A wheelset has a diameter, 9000 at first, and a flange, 300 at first")
    static void aNewWheelset() {
        WheelWorks x = Build.oneOfEach();
        check.due("diameter", x.wheel(3, 0), 9000);
        check.due("flange", x.wheel(3, 1), 300);
    }

    @Says(promise = Says.TERMS, value = "the diameter is 1 less for each 100 kilometres of its life as they are full")
    static void aTreadIsLessForEach100FullKilometres() {
        int[][] due = {{1, 9000}, {99, 9000}, {100, 8999}, {101, 8999}, {199, 8999}, {200, 8998}, {1999, 8981},
            {2000, 8980}};
        for (int[] one : due) {
            check.due("behind " + one[0], behindRun(one[0], 0).wheel(3, 0), one[1]);
            check.due("behind " + one[0] + " in season 2", behindRun(one[0], 2).wheel(17, 0), one[1]);
        }
    }

    @Says(promise = Says.TERMS, value = "the flange 1 less for each 200 full units of rubbing")
    static void aFlangeIsLessForEach200FullUnits() {
        int[][] due = {{1, 300}, {199, 300}, {200, 299}, {201, 299}, {399, 299}, {400, 298}, {1999, 291}, {2000, 290}};
        for (int[] one : due) {
            check.due("behind " + one[0], behindRun(one[0], 0).wheel(3, 1), one[1]);
        }
    }

    @Says(promise = Says.TERMS, value = "the kilometres times 1, 2, 3 or 2, by the season")
    static void rubbingByTheSeason() {
        int[][] least = {{199, 200}, {99, 100}, {66, 67}, {99, 100}};
        int[] behindMost = {290, 280, 270, 280};
        for (int season = 0; season <= 3; season++) {
            check.due("no unit full, season " + season, behindRun(least[season][0], season).wheel(3, 1), 300);
            check.due("one unit full, season " + season, behindRun(least[season][1], season).wheel(3, 1), 299);
            check.due("2000 kilometres, season " + season, behindRun(2000, season).wheel(17, 1), behindMost[season]);
        }
    }

    @Says(promise = Says.TERMS, value = "what is left over of such a unit, or of 100 kilometres, counts on")
    static void whatIsLeftOverCountsOn() {
        WheelWorks x = behindRun(99, 0);
        Build.ride(x, 0, 1, 0);
        check.due("diameter behind 100", x.wheel(3, 0), 8999);
        Build.ride(x, 0, 99, 0);
        check.due("diameter behind 199", x.wheel(3, 0), 8999);
        check.due("flange behind 199 units", x.wheel(3, 1), 300);
        Build.ride(x, 0, 1, 0);
        check.due("diameter behind 200", x.wheel(3, 0), 8998);
        check.due("flange behind 200 units", x.wheel(3, 1), 299);
        Build.ride(x, 0, 66, 2);
        check.due("flange behind 398 units", x.wheel(3, 1), 299);
        Build.ride(x, 0, 1, 1);
        check.due("flange behind 400 units", x.wheel(3, 1), 298);
    }

    @Says(promise = Says.TERMS, value = "counts on, also behind the lathe")
    static void whatIsLeftOverCountsOnBehindTheLathe() {
        WheelWorks x = behindRun(199, 0);
        check.due("turned, one kilometre short", x.turn(2), 0);
        Build.ride(x, 0, 1, 0);
        check.due("flange, 200 units", x.wheel(3, 1), 299);
        check.due("diameter, 200 kilometres", x.wheel(3, 0), 8998);
        check.due("turned", x.turn(2), 4);
        Build.ride(x, 0, 199, 0);
        check.due("flange, 399 units", x.wheel(3, 1), 300);
        check.due("diameter, 399 kilometres", x.wheel(3, 0), 8995);
        Build.ride(x, 0, 1, 0);
        check.due("flange, 400 units", x.wheel(3, 1), 299);
        check.due("diameter, 400 kilometres", x.wheel(3, 0), 8994);
    }

    @Says(promise = Says.TERMS, value = "of which it has had, in all its life")
    static void wearGoesWithTheWheelset() {
        WheelWorks x = behindRun(199, 0);
        int anew = x.part(WheelWorks.WHEELSET, 0, 0);
        x.take(3);
        x.fit(anew, 2);
        Build.ride(x, 0, 1, 0);
        check.due("199 units, in the store", x.wheel(3, 1), 300);
        check.due("199 kilometres, in the store", x.wheel(3, 0), 8999);
        check.due("1 unit", x.wheel(anew, 1), 300);
        check.due("1 kilometre", x.wheel(anew, 0), 9000);
        x.take(7);
        x.fit(3, 6);
        Build.ride(x, 0, 1, 0);
        check.due("200 units, in another bogie", x.wheel(3, 1), 299);
        check.due("200 kilometres, in another bogie", x.wheel(3, 0), 8998);
    }

    // ---- promise 24: lifeAnew

    /** Both ways of telling a life. */
    private static void life(WheelWorks x, int part, int kilometres) {
        check.due("life of " + part, x.ofPart(part, 3), kilometres);
        check.due("life anew of " + part, x.lifeAnew(part), kilometres);
    }

    @Says(promise = 24, value = "Throws IndexOutOfBoundsException if there is no such part")
    static void noSuchPartHasALife() {
        check.noSuchPart(Build::fullTrain, WheelWorks::lifeAnew);
        check.noSuchPart(WheelWorks::new, WheelWorks::lifeAnew);
        check.noSuchPart(Build::sixty, WheelWorks::lifeAnew);
        check.due("the last of 60", Build.sixty().lifeAnew(59), 0);
    }

    @Says(promise = 24, value = "Returns the kilometres of a part's life, found by all that was fitted, taken and"
        + " run.")
    static void livesOfWhatNeverRan() {
        for (int part = 0; part <= 4; part++) {
            check.due("in the store", Build.oneOfEach().lifeAnew(part), 0);
            check.due("scrapped", Build.scrapped().lifeAnew(part), 0);
        }
        for (int part = 0; part < Build.PARTS_OF_TRAIN; part++) {
            check.due("released", Build.released().lifeAnew(part), 0);
            check.due("behind a run", behindRun(2000, 1).lifeAnew(part), 2000);
        }
    }

    @Says(promise = 24, value = "Returns the kilometres of a part's life, found by all that was fitted, taken and"
        + " run.")
    static void livesOfWhatMoves() {
        WheelWorks x = behindRun(100, 0);
        x.take(2);
        int bogie = Build.bogie(x, 0);
        x.fit(bogie, 1);
        Build.ride(x, 0, 30, 0);
        x.take(3);
        x.take(7);
        x.fit(3, 6);
        x.fit(7, 2);
        Build.ride(x, 0, 7, 0);
        life(x, 3, 107);
        life(x, 7, 130);
        life(x, 4, 100);
        life(x, 2, 100);
        life(x, bogie, 37);
        life(x, bogie + 1, 37);
        life(x, 0, 137);
        x.take(4);
        x.scrap(4);
        life(x, 4, 100);
    }

    @Says(promise = 24, value = "Returns the kilometres of a part's life, found by all that was fitted, taken and"
        + " run.")
    static void livesInACoachThatGoesFromTrainToTrain() {
        WheelWorks x = Build.fullTrain();
        int other = Build.train(x, 0);
        Build.ride(x, 0, 1000, 0);
        Build.ride(x, other, 20, 0);
        x.take(10);
        x.take(other + 1);
        x.fit(10, other);
        x.fit(other + 1, 0);
        Build.ride(x, 0, 300, 0);
        Build.ride(x, other, 4, 0);
        life(x, 18, 1004);
        life(x, 15, 1004);
        life(x, 10, 1004);
        life(x, other + 3, 320);
        life(x, other + 18, 24);
        life(x, 3, 1300);
        life(x, 0, 1300);
        life(x, other, 24);
    }

    @Says(promise = 24, value = "Returns the kilometres of a part's life, found by all that was fitted, taken and"
        + " run.")
    static void livesOfPart0() {
        WheelWorks x = new WheelWorks();
        int motor = x.part(WheelWorks.MOTOR, 0, 0);
        int train = Build.train(x, 0);
        Build.ride(x, train, 10, 0);
        life(x, motor, 0);
        x.take(6);
        x.fit(motor, 3);
        Build.ride(x, train, 20, 0);
        life(x, motor, 20);
        life(x, motor, 20);
        life(x, 6, 10);
        x.take(motor);
        x.fit(6, 3);
        Build.ride(x, train, 40, 0);
        life(x, motor, 20);
        life(x, 6, 50);
        x.scrap(motor);
        life(x, motor, 20);
        life(x, motor, 20);
    }

    @Says(promise = 24, value = "Returns the kilometres of a part's life, found by all that was fitted, taken and"
        + " run.")
    static void asManyRunsAsCallsGo() {
        WheelWorks x = new WheelWorks();
        int train = Build.train(x, 0);
        int built = 37;
        int runs = (512 - built - 2) / 2;
        for (int run = 0; run < runs; run++) {
            Build.ride(x, train, 1, 0);
        }
        check.due("life of the last part", x.lifeAnew(18), runs);
        check.due("life of the train", x.lifeAnew(train), runs);
    }
}
