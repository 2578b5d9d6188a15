/** Promises 8, 9, 25 and 26: the lathe, the gate, and what is told of a wheelset. */
public final class WheelTest {
    private static final Check check = new Check();

    public static void main(String[] args) {
        check.runAll(WheelTest.class);
    }

    /** A bogie 0 with wheelsets 1 and 2 and motor 3, and a spare wheelset 4. */
    private static WheelWorks bogieAndSpare() {
        WheelWorks x = new WheelWorks();
        Build.bogie(x, 0);
        x.part(WheelWorks.WHEELSET, 0, 0);
        return x;
    }

    /** A full train whose flanges are 270 behind 2000 kilometres. */
    private static WheelWorks worn() {
        WheelWorks x = Build.fullTrain();
        Build.ride(x, 0, 2000, 2);
        return x;
    }

    // ---- promise 8: turn

    @Says(promise = Says.TERMS, value = "of each the diameter becomes twice as much less as its flange is below 300,"
        + " and the flange is 300")
    static void diametersForFlanges() {
        WheelWorks x = worn();
        check.due("flange", x.wheel(3, 1), 270);
        check.due("diameter", x.wheel(3, 0), 8980);
        check.due("twice 30, of both", x.turn(2), 120);
        for (int wheelset = 3; wheelset <= 4; wheelset++) {
            check.due("diameter", x.wheel(wheelset, 0), 8920);
            check.due("flange", x.wheel(wheelset, 1), 300);
        }
        check.due("the next bogie's diameter", x.wheel(7, 0), 8980);
        check.due("and flange", x.wheel(7, 1), 270);
    }

    @Says(promise = Says.TERMS, value = "of each the diameter becomes twice as much less as its flange is below 300,"
        + " and the flange is 300")
    static void nothingIsBelow300() {
        WheelWorks x = bogieAndSpare();
        check.due("new ones", x.turn(0), 0);
        check.due("diameter", x.wheel(1, 0), 9000);
        check.due("flange", x.wheel(2, 1), 300);
        WheelWorks y = Build.fullTrain();
        Build.ride(y, 0, 199, 0);
        check.due("300 still", y.turn(2), 0);
        Build.ride(y, 0, 1, 0);
        check.due("299", y.turn(2), 4);
        check.due("turned again", y.turn(2), 0);
    }

    @Says(promise = Says.TERMS, value = "then the greater diameter becomes the lesser one")
    static void theGreaterDiameterOfTheSecondOne() {
        WheelWorks x = worn();
        x.take(4);
        int anew = x.part(WheelWorks.WHEELSET, 0, 0);
        x.fit(anew, 2);
        check.due("8980 less 60, and 9000", x.turn(2), 60 + 80);
        check.due("the worn one", x.wheel(3, 0), 8920);
        check.due("the new one", x.wheel(anew, 0), 8920);
        check.due("flange of the new one", x.wheel(anew, 1), 300);
        check.due("the one in the store", x.wheel(4, 0), 8980);
        check.due("its flange", x.wheel(4, 1), 270);
    }

    @Says(promise = Says.TERMS, value = "then the greater diameter becomes the lesser one")
    static void theGreaterDiameterOfTheFirstOne() {
        WheelWorks x = new WheelWorks();
        int spare = x.part(WheelWorks.WHEELSET, 0, 0);
        int train = Build.train(x, 0);
        int bogie = x.host(5);
        Build.ride(x, train, 100, 0);
        x.take(5);
        x.fit(spare, bogie);
        check.due("9000 and 8999", x.turn(bogie), 1);
        check.due("the greater one", x.wheel(spare, 0), 8999);
        check.due("the lesser one", x.wheel(4, 0), 8999);
    }

    @Says(promise = Says.TERMS, value = "then the greater diameter becomes the lesser one")
    static void theLesserOneIsFoundBehindTheFlanges() {
        WheelWorks x = Build.fullTrain();
        Build.ride(x, 0, 1000, 2);
        x.take(3);
        int other = x.part(WheelWorks.WHEELSET, 0, 0);
        x.fit(other, 2);
        Build.ride(x, 0, 1500, 0);
        x.take(4);
        x.fit(3, 2);
        check.due("diameter", x.wheel(3, 0), 8990);
        check.due("flange", x.wheel(3, 1), 285);
        check.due("lesser diameter", x.wheel(other, 0), 8985);
        check.due("greater flange", x.wheel(other, 1), 293);
        check.due("30 and 25", x.turn(2), 55);
        check.due("both", x.wheel(3, 0), 8960);
        check.due("both", x.wheel(other, 0), 8960);
    }

    @Says(promise = 8, value = "Returns by how much both diameters, together, are less.")
    static void bothDiametersTogether() {
        WheelWorks x = worn();
        int before = x.wheel(12, 0) + x.wheel(13, 0);
        int less = x.turn(11);
        check.due("turned", less, before - x.wheel(12, 0) - x.wheel(13, 0));
        check.due("twice 60", less, 120);
    }

    @Says(promise = 8, value = "Throws IndexOutOfBoundsException if there is no such part")
    static void noSuchBogieIsTurned() {
        check.noSuchPart(WheelTest::bogieAndSpare, WheelWorks::turn);
        check.noSuchPart(WheelWorks::new, WheelWorks::turn);
    }

    @Says(promise = 8, value = "Throws IllegalArgumentException if it is no bogie")
    static void whatIsNoBogieIsNotTurned() {
        for (int part : new int[] {0, 1, 3, 5}) {
            check.refused("part " + part, Check.ARGUMENT, WheelTest::worn, x -> x.turn(part));
            check.refused("bound, part " + part, Check.ARGUMENT, Build::onRoad, x -> x.turn(part));
        }
        for (int part : new int[] {0, 1, 3, 4}) {
            check.refused("stored, part " + part, Check.ARGUMENT, Build::oneOfEach, x -> x.turn(part));
            check.refused("scrapped, part " + part, Check.ARGUMENT, Build::scrapped, x -> x.turn(part));
        }
    }

    @Says(promise = 8, value = "it has not both wheelsets")
    static void aBogieWithoutBothWheelsetsIsNotTurned() {
        check.refused("nothing in it", Check.STATE, Build::oneOfEach, x -> x.turn(2));
        check.refused("scrapped", Check.STATE, Build::scrapped, x -> x.turn(2));
        check.refused("a motor", Check.STATE, Build::oneOfEach, x -> x.fit(4, 2), x -> x.turn(2));
        check.refused("one wheelset", Check.STATE, Build::oneOfEach, x -> x.fit(3, 2), x -> x.turn(2));
        check.refused("one, and a motor", Check.STATE, WheelTest::bogieAndSpare, x -> x.take(2), x -> x.turn(0));
        check.refused("the other, worn", Check.STATE, WheelTest::worn, x -> x.take(3), x -> x.turn(2));
    }

    @Says(promise = Says.TERMS, value = "The lathe turns the wheelsets of a bogie that has both")
    static void bothWheelsetsAreEnough() {
        WheelWorks x = worn();
        x.take(2);
        x.take(5);
        check.due("in the store, without its motor", x.turn(2), 120);
        check.due("a bogie 0, new", bogieAndSpare().turn(0), 0);
    }

    @Says(promise = 8, value = "or is bound")
    static void aBogieOfATrainOnARoadIsNotTurned() {
        check.refused("on a road", Check.STATE, Build::onRoad, x -> x.turn(2));
        check.refused("worn, on a road", Check.STATE, WheelTest::worn, Build::park, x -> x.turn(15));
        check.due("it waits", Build.waiting().turn(2), 0);
        check.due("it is out", Build.outAgain().turn(2), 0);
        WheelWorks x = worn();
        x.take(15);
        Build.park(x);
        check.due("not in that train", x.turn(15), 120);
    }

    // ---- promise 9: gate

    @Says(promise = 9, value = "error: -5 to 5")
    static void errorsOfTheGate() {
        check.range("error", -5, 5, WheelTest::worn, (x, error) -> x.gate(3, error));
    }

    @Says(promise = 9, value = "Returns the flange as it is told.")
    static void theFlangeWithItsError() {
        WheelWorks x = worn();
        for (int error = -5; error <= 5; error++) {
            check.due("270 and " + error, x.gate(3, error), 270 + error);
            check.due("what it told", x.wheel(3, 2), 270 + error);
            check.due("a new one", bogieAndSpare().gate(4, error), 300 + error);
        }
        check.due("the flange is as it was", x.wheel(3, 1), 270);
    }

    @Says(promise = Says.TERMS, value = "The gate tells a wheelset's flange with an error, -5 to 5, and keeps that"
        + " until it tells the next one")
    static void keptUntilTheNextOne() {
        WheelWorks x = Build.fullTrain();
        x.gate(3, 5);
        Build.ride(x, 0, 2000, 2);
        check.due("behind a run", x.wheel(3, 2), 305);
        x.turn(2);
        check.due("behind the lathe", x.wheel(3, 2), 305);
        x.take(3);
        check.due("in the store", x.wheel(3, 2), 305);
        x.scrap(3);
        check.due("scrapped", x.wheel(3, 2), 305);
        check.due("the gate takes it still", x.gate(3, -5), 295);
        check.due("the next one", x.wheel(3, 2), 295);
    }

    @Says(promise = 9, value = "The gate measures a wheelset.")
    static void boundOnesToo() {
        WheelWorks x = Build.onRoad();
        check.due("on a road", x.gate(17, 1), 301);
        check.due("kept", x.wheel(17, 2), 301);
        check.due("it waits", Build.waiting().gate(17, -1), 299);
    }

    @Says(promise = 9, value = "Throws IndexOutOfBoundsException if there is no such part")
    static void noSuchWheelsetIsMeasured() {
        check.noSuchPart(WheelTest::worn, (x, wheelset) -> x.gate(wheelset, 0));
        check.noSuchPart(WheelWorks::new, (x, wheelset) -> x.gate(wheelset, 0));
        check.refused("error out of range too", Check.INDEX, WheelTest::worn, x -> x.gate(19, 6));
        check.refused("error out of range too", Check.INDEX, WheelTest::worn, x -> x.gate(-1, -6));
    }

    @Says(promise = 9, value = "it is no wheelset, or error is out of range")
    static void whatIsNoWheelsetIsNotMeasured() {
        check.otherKinds("3", (x, part) -> x.gate(part, 0));
        check.refused("error out of range", Check.ARGUMENT, WheelTest::worn, x -> x.gate(3, 6));
        check.refused("the first one is kept", Check.ARGUMENT, WheelTest::worn, x -> x.gate(3, 1), x -> x.gate(3, -6));
    }

    // ---- promise 25: wheel

    @Says(promise = 25, value = "what: 0 to 2")
    static void whatIsToldOfAWheelset() {
        check.range("what", 0, 2, WheelTest::worn, (x, what) -> x.wheel(3, what));
    }

    @Says(promise = 25, value = "0 its diameter, 1 its flange, 2 the flange as the gate told it the latest, NONE"
        + " without.")
    static void allThatIsToldOfAWheelset() {
        WheelWorks x = worn();
        x.gate(3, 3);
        int[] due = {8980, 270, 273};
        int[] dueUntold = {8980, 270, WheelWorks.NONE};
        for (int what = 0; what <= 2; what++) {
            check.due("of one, " + what, x.wheel(3, what), due[what]);
            check.due("of the one beside it, " + what, x.wheel(4, what), dueUntold[what]);
        }
    }

    @Says(promise = 25, value = "Throws IndexOutOfBoundsException if there is no such part")
    static void nothingIsToldOfNoWheelset() {
        check.noSuchPart(WheelTest::worn, (x, wheelset) -> x.wheel(wheelset, 0));
        check.noSuchPart(WheelWorks::new, (x, wheelset) -> x.wheel(wheelset, 2));
        check.refused("what out of range too", Check.INDEX, WheelTest::worn, x -> x.wheel(19, 3));
    }

    @Says(promise = 25, value = "it is no wheelset, or what is out of range")
    static void nothingOfWheelsIsToldOfOtherKinds() {
        for (int what = 0; what <= 3; what++) {
            int told = Math.min(what, 2);
            check.otherKinds("3", (x, part) -> x.wheel(part, told));
        }
        check.refused("what 3, of a motor", Check.ARGUMENT, Build::oneOfEach, x -> x.wheel(4, 3));
    }

    // ---- promise 26: foretell

    /** Wheelset 3 of a full train, of which the gate told 300 and 5. */
    private static WheelWorks told305() {
        WheelWorks x = Build.fullTrain();
        x.gate(3, 5);
        return x;
    }

    /** Wheelset 3 has a flange of 246, of which the gate told so much more. */
    private static WheelWorks told246And(int error) {
        WheelWorks x = worn();
        Build.ride(x, 0, 1600, 2);
        x.gate(3, error);
        return x;
    }

    @Says(promise = 26, value = "kilometres: 1 to 2000 a day")
    static void kilometresADay() {
        check.range("kilometres", 1, 2000, WheelTest::told305, (x, kilometres) -> x.foretell(3, kilometres, 0));
        check.range("nothing told", 1, 2000, WheelTest::worn, (x, kilometres) -> x.foretell(3, kilometres, 0));
        check.due("the fewest", told305().foretell(3, 1, 0), 11000);
        check.due("the most", told305().foretell(3, 2000, 0), 5);
        check.due("the most, in season 2", told305().foretell(3, 2000, 2), 1);
    }

    @Says(promise = 26, value = "season: 0 to 3")
    static void seasonsForetold() {
        check.range("season", 0, 3, WheelTest::told305, (x, season) -> x.foretell(3, 1, season));
        check.range("nothing told", 0, 3, WheelTest::worn, (x, season) -> x.foretell(3, 1, season));
    }

    @Says(promise = Says.TERMS, value = "divided by these kilometres times 1, 2, 3 or 2, rounded down")
    static void daysByTheSeason() {
        int[] due = {11000, 5500, 3666, 5500};
        int[] dueAt1000 = {11, 5, 3, 5};
        for (int season = 0; season <= 3; season++) {
            check.due("1 a day, season " + season, told305().foretell(3, 1, season), due[season]);
            check.due("1000 a day, season " + season, told305().foretell(3, 1000, season), dueAt1000[season]);
        }
        WheelWorks x = told246And(5);
        check.due("251 as told, 200 a day", x.foretell(3, 200, 0), 1);
        check.due("201 a day", x.foretell(3, 201, 0), 0);
        check.due("100 a day in season 1", x.foretell(3, 100, 1), 1);
        check.due("101 a day in season 3", x.foretell(3, 101, 3), 0);
        check.due("66 a day in season 2", x.foretell(3, 66, 2), 1);
        check.due("67 a day in season 2", x.foretell(3, 67, 2), 0);
    }

    @Says(promise = Says.TERMS, value = "0 if nothing is above")
    static void nothingAbove250() {
        check.due("251 as told", told246And(5).foretell(3, 1, 0), 200);
        check.due("250 as told", told246And(4).foretell(3, 1, 0), 0);
        check.due("249 as told", told246And(3).foretell(3, 1, 0), 0);
        check.due("241 as told", told246And(-5).foretell(3, 1, 2), 0);
    }

    @Says(promise = Says.TERMS, value = "from it is foretold in how many days")
    static void foretoldByTheGateAlone() {
        WheelWorks x = told305();
        Build.ride(x, 0, 2000, 2);
        check.due("flange", x.wheel(3, 1), 270);
        check.due("305 as told", x.foretell(3, 1000, 0), 11);
        x.gate(3, 0);
        check.due("270 as told", x.foretell(3, 1000, 0), 4);
        x.turn(2);
        check.due("270 as told, turned", x.foretell(3, 1000, 0), 4);
        check.due("of the one beside it", x.foretell(4, 1000, 0), WheelWorks.NONE);
    }

    @Says(promise = 26, value = "Returns in how many days; NONE if the gate told nothing.")
    static void noneIfTheGateToldNothing() {
        check.due("a new one", Build.oneOfEach().foretell(3, 1, 0), WheelWorks.NONE);
        check.due("a worn one", worn().foretell(3, 2000, 3), WheelWorks.NONE);
        WheelWorks x = worn();
        check.throwing("the gate refused", Check.ARGUMENT, () -> x.gate(3, 6));
        check.due("behind that", x.foretell(3, 1, 0), WheelWorks.NONE);
    }

    @Says(promise = 26, value = "Throws IndexOutOfBoundsException if there is no such part")
    static void nothingIsForetoldOfNoWheelset() {
        check.noSuchPart(WheelTest::told305, (x, wheelset) -> x.foretell(wheelset, 1, 0));
        check.noSuchPart(WheelWorks::new, (x, wheelset) -> x.foretell(wheelset, 1, 0));
        check.refused("kilometres out of range too", Check.INDEX, WheelTest::told305, x -> x.foretell(19, 0, 0));
        check.refused("season out of range too", Check.INDEX, WheelTest::told305, x -> x.foretell(19, 1, 4));
    }

    @Says(promise = 26, value = "it is no wheelset, or kilometres or season is out of range")
    static void nothingIsForetoldOfOtherKinds() {
        check.otherKinds("3", (x, part) -> x.foretell(part, 1, 0));
        check.refused("kilometres and season", Check.ARGUMENT, WheelTest::told305, x -> x.foretell(3, 0, 4));
        check.refused("a motor, kilometres 0", Check.ARGUMENT, WheelTest::told305, x -> x.foretell(5, 0, 0));
    }
}
