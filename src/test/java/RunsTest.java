/** Promises 7 to 10, 24 to 26: runs, wear, the lathe, the gate, and the kilometres counted anew. */
public final class RunsTest {
    private static final Check check = new Check();

    public static void main(String[] args) {
        runCounts();
        runOnceForARelease();
        runThrows();
        runOfBoundTrain();
        treadByLife();
        flangeBySeason();
        leftoversCountOn();
        leftoversBehindTheLathe();
        turn();
        turnThrows();
        gate();
        gateThrows();
        wheelThrows();
        foretell();
        foretellThrows();
        lifeOfWhatMoves();
        check.end();
    }

    private static void runCounts() {
        WheelWorks x = Build.fullTrain();
        int other = x.part(WheelWorks.MOTOR, 0, 0);
        check.due("run", Build.ride(x, 0, 2000, 0), WheelWorks.NONE);
        check.due("run again", Build.ride(x, 0, 1, 3), WheelWorks.NONE);
        for (int part = 0; part < Build.PARTS_OF_TRAIN; part++) {
            check.due("life of " + part, x.ofPart(part, 3), 2001);
            check.due("since of " + part, x.ofPart(part, 4), 2001);
            check.due("life anew of " + part, x.lifeAnew(part), 2001);
        }
        check.due("life of what is not in the tree", x.ofPart(other, 3), 0);
        check.due("since of what is not in the tree", x.ofPart(other, 4), 0);
        check.due("life anew of what is not in the tree", x.lifeAnew(other), 0);
    }

    private static void runOnceForARelease() {
        WheelWorks x = Build.fullTrain();
        check.throwing("not released", Check.STATE, () -> x.run(0, 1, 0));
        check.due("release", x.release(0), 0);
        check.due("release twice", x.release(0), 0);
        check.due("run", x.run(0, 1, 0), WheelWorks.NONE);
        check.due("released", x.isReleased(0), false);
        check.throwing("not released again", Check.STATE, () -> x.run(0, 1, 0));
        check.due("life", x.ofPart(0, 3), 1);
    }

    private static void runThrows() {
        WheelWorks x = Build.fullTrain();
        check.throwing("no such train", Check.INDEX, () -> x.run(19, 0, 4));
        check.throwing("train -1", Check.INDEX, () -> x.run(-1, 1, 0));
        check.throwing("a coach", Check.ARGUMENT, () -> x.run(1, 1, 0));
        check.throwing("kilometres 0, not released", Check.ARGUMENT, () -> x.run(0, 0, 0));
        x.release(0);
        check.throwing("kilometres 0", Check.ARGUMENT, () -> x.run(0, 0, 0));
        check.throwing("kilometres -1", Check.ARGUMENT, () -> x.run(0, -1, 0));
        check.throwing("kilometres 2001", Check.ARGUMENT, () -> x.run(0, 2001, 0));
        check.throwing("season -1", Check.ARGUMENT, () -> x.run(0, 1, -1));
        check.throwing("season 4", Check.ARGUMENT, () -> x.run(0, 1, 4));
        check.due("still released", x.isReleased(0), true);
        check.due("none ran", x.ofPart(0, 3), 0);
        check.due("run", x.run(0, 1, 3), WheelWorks.NONE);
    }

    private static void runOfBoundTrain() {
        WheelWorks x = Build.fullTrain();
        x.comes(0, 0);
        check.due("a train that waits runs", Build.ride(x, 0, 1, 0), WheelWorks.NONE);
        x.release(0);
        x.night();
        check.due("a release on the road stays", x.isReleased(0), true);
        check.throwing("on a road", Check.STATE, () -> x.run(0, 1, 0));
        check.throwing("on a road, kilometres 0", Check.ARGUMENT, () -> x.run(0, 0, 0));
        check.due("released as it was", x.isReleased(0), true);
        x.out();
        check.due("when it is out", x.run(0, 1, 0), WheelWorks.NONE);
        check.due("life", x.ofPart(18, 3), 2);
    }

    private static void treadByLife() {
        WheelWorks x = Build.fullTrain();
        check.due("diameter of a new one", x.wheel(3, 0), 9000);
        Build.ride(x, 0, 99, 0);
        check.due("diameter behind 99 kilometres", x.wheel(3, 0), 9000);
        Build.ride(x, 0, 1, 0);
        check.due("diameter behind 100 kilometres", x.wheel(3, 0), 8999);
        Build.ride(x, 0, 1999, 0);
        check.due("diameter behind 2099 kilometres", x.wheel(17, 0), 8980);
        Build.ride(x, 0, 1, 0);
        check.due("diameter behind 2100 kilometres", x.wheel(17, 0), 8979);
    }

    private static void flangeBySeason() {
        int[] due = {295, 290, 285, 290};
        for (int season = 0; season <= 3; season++) {
            WheelWorks x = Build.fullTrain();
            check.due("flange of a new one", x.wheel(3, 1), 300);
            Build.ride(x, 0, 1000, season);
            check.due("flange in season " + season, x.wheel(3, 1), due[season]);
            check.due("diameter in season " + season, x.wheel(3, 0), 8990);
        }
    }

    private static void leftoversCountOn() {
        WheelWorks x = Build.fullTrain();
        Build.ride(x, 0, 199, 0);
        check.due("flange behind 199 units", x.wheel(3, 1), 300);
        Build.ride(x, 0, 1, 0);
        check.due("flange behind 200 units", x.wheel(3, 1), 299);
        Build.ride(x, 0, 66, 2);
        check.due("flange behind 398 units", x.wheel(3, 1), 299);
        Build.ride(x, 0, 1, 1);
        check.due("flange behind 400 units", x.wheel(3, 1), 298);
    }

    private static void leftoversBehindTheLathe() {
        WheelWorks x = Build.fullTrain();
        Build.ride(x, 0, 199, 0);
        check.due("turned with nothing worn but 1 kilometre's 100th", x.turn(2), 0);
        Build.ride(x, 0, 1, 0);
        check.due("flange behind the lathe", x.wheel(3, 1), 299);
        check.due("diameter behind the lathe", x.wheel(3, 0), 8998);
        check.due("turned", x.turn(2), 4);
        Build.ride(x, 0, 199, 0);
        check.due("flange, 399 units", x.wheel(3, 1), 300);
        check.due("diameter, 399 kilometres", x.wheel(3, 0), 8995);
        Build.ride(x, 0, 1, 0);
        check.due("flange, 400 units", x.wheel(3, 1), 299);
        check.due("diameter, 400 kilometres", x.wheel(3, 0), 8994);
    }

    private static void turn() {
        WheelWorks x = Build.fullTrain();
        check.due("new ones", x.turn(2), 0);
        Build.ride(x, 0, 2000, 2);
        check.due("flange", x.wheel(3, 1), 270);
        x.take(4);
        int anew = x.part(WheelWorks.WHEELSET, 0, 0);
        x.fit(anew, 2);
        check.due("8980 less 60, and 9000", x.turn(2), 60 + 80);
        check.due("diameter of the worn one", x.wheel(3, 0), 8920);
        check.due("diameter of the new one", x.wheel(anew, 0), 8920);
        check.due("flange of the worn one", x.wheel(3, 1), 300);
        check.due("flange of the new one", x.wheel(anew, 1), 300);
        check.due("the one in the store stays", x.wheel(4, 0), 8980);
        check.due("and its flange", x.wheel(4, 1), 270);
        check.due("turned again", x.turn(2), 0);
        int store = Build.bogie(x, 0);
        check.due("a bogie in the store", x.turn(store), 0);
        turnTheGreaterOneDown();
    }

    /** The greater diameter is that of the wheelset with the lower number, and that is part 0. */
    private static void turnTheGreaterOneDown() {
        WheelWorks x = new WheelWorks();
        int spare = x.part(WheelWorks.WHEELSET, 0, 0);
        int train = Build.train(x, 0);
        int bogie = x.host(5);
        Build.ride(x, train, 100, 0);
        x.take(5);
        x.fit(spare, bogie);
        check.due("9000 and 8999", x.turn(bogie), 1);
        check.due("the greater one", x.wheel(spare, 0), 8999);
        check.due("the lesser one", x.wheel(4, 0), 8999);
    }

    private static void turnThrows() {
        WheelWorks x = Build.oneOfEach();
        check.throwing("no such bogie", Check.INDEX, () -> x.turn(5));
        check.throwing("bogie -1", Check.INDEX, () -> x.turn(-1));
        check.throwing("a train", Check.ARGUMENT, () -> x.turn(0));
        check.throwing("a coach", Check.ARGUMENT, () -> x.turn(1));
        check.throwing("a wheelset", Check.ARGUMENT, () -> x.turn(3));
        check.throwing("no wheelset", Check.STATE, () -> x.turn(2));
        x.fit(3, 2);
        x.fit(4, 2);
        check.throwing("a wheelset and a motor", Check.STATE, () -> x.turn(2));
        int second = x.part(3, 0, 0);
        x.fit(second, 2);
        check.due("both", x.turn(2), 0);
        x.fit(2, 1);
        x.fit(1, 0);
        x.comes(0, 4);
        check.due("of a train that waits", x.turn(2), 0);
        x.night();
        check.throwing("on a road", Check.STATE, () -> x.turn(2));
        x.out();
        check.due("when it is out", x.turn(2), 0);
        x.take(3);
        check.throwing("one is taken", Check.STATE, () -> x.turn(2));
    }

    private static void gate() {
        WheelWorks x = Build.fullTrain();
        check.due("nothing told", x.wheel(3, 2), WheelWorks.NONE);
        for (int error = -5; error <= 5; error++) {
            check.due("gate(3, " + error + ")", x.gate(3, error), 300 + error);
            check.due("what it told", x.wheel(3, 2), 300 + error);
        }
        check.due("the flange itself", x.wheel(3, 1), 300);
        check.due("of another one", x.wheel(4, 2), WheelWorks.NONE);
        Build.ride(x, 0, 2000, 2);
        check.due("it keeps that", x.wheel(3, 2), 305);
        check.due("flange", x.wheel(3, 1), 270);
        x.turn(2);
        check.due("and behind the lathe", x.wheel(3, 2), 305);
        x.comes(0, 0);
        x.night();
        check.due("on a road", x.gate(7, -1), 269);
    }

    private static void gateThrows() {
        WheelWorks x = Build.oneOfEach();
        check.throwing("no such wheelset", Check.INDEX, () -> x.gate(5, 6));
        check.throwing("wheelset -1", Check.INDEX, () -> x.gate(-1, 0));
        check.throwing("a motor", Check.ARGUMENT, () -> x.gate(4, 0));
        check.throwing("a bogie", Check.ARGUMENT, () -> x.gate(2, 0));
        check.throwing("error -6", Check.ARGUMENT, () -> x.gate(3, -6));
        check.throwing("error 6", Check.ARGUMENT, () -> x.gate(3, 6));
        check.due("nothing told", x.wheel(3, 2), WheelWorks.NONE);
    }

    private static void wheelThrows() {
        WheelWorks x = Build.oneOfEach();
        check.throwing("no such wheelset", Check.INDEX, () -> x.wheel(5, 3));
        check.throwing("wheelset -1", Check.INDEX, () -> x.wheel(-1, 0));
        check.throwing("a motor", Check.ARGUMENT, () -> x.wheel(4, 0));
        check.throwing("a train", Check.ARGUMENT, () -> x.wheel(0, 0));
        check.throwing("what -1", Check.ARGUMENT, () -> x.wheel(3, -1));
        check.throwing("what 3", Check.ARGUMENT, () -> x.wheel(3, 3));
    }

    private static void foretell() {
        WheelWorks x = Build.fullTrain();
        check.due("nothing told", x.foretell(3, 100, 0), WheelWorks.NONE);
        x.gate(3, 5);
        check.due("55 above, season 0", x.foretell(3, 1000, 0), 11);
        check.due("55 above, season 1", x.foretell(3, 1000, 1), 5);
        check.due("55 above, season 2", x.foretell(3, 1000, 2), 3);
        check.due("55 above, season 3", x.foretell(3, 1000, 3), 5);
        check.due("one kilometre a day", x.foretell(3, 1, 0), 11000);
        check.due("as many as go", x.foretell(3, 2000, 2), 1);
        Build.ride(x, 0, 2000, 2);
        check.due("by what the gate told", x.foretell(3, 1000, 0), 11);
        Build.ride(x, 0, 1999, 2);
        check.due("flange", x.wheel(3, 1), 241);
        x.gate(3, 5);
        check.due("below 250", x.foretell(3, 1, 0), 0);
        x.turn(2);
        check.due("still by that", x.foretell(3, 1, 0), 0);
        check.due("of another one", x.foretell(4, 1, 0), WheelWorks.NONE);
        edgeOfForetelling();
    }

    private static void edgeOfForetelling() {
        WheelWorks x = Build.fullTrain();
        Build.ride(x, 0, 2000, 2);
        Build.ride(x, 0, 1666, 2);
        check.due("flange", x.wheel(3, 1), 246);
        x.gate(3, 4);
        check.due("250 as told", x.foretell(3, 1, 0), 0);
        x.gate(3, 5);
        check.due("251 as told", x.foretell(3, 1, 0), 200);
        check.due("251 as told, rounded down", x.foretell(3, 67, 2), 0);
        check.due("251 as told, just", x.foretell(3, 200, 0), 1);
    }

    private static void foretellThrows() {
        WheelWorks x = Build.oneOfEach();
        check.throwing("no such wheelset", Check.INDEX, () -> x.foretell(5, 0, 9));
        check.throwing("wheelset -1", Check.INDEX, () -> x.foretell(-1, 1, 0));
        check.throwing("a motor", Check.ARGUMENT, () -> x.foretell(4, 1, 0));
        for (int told = 0; told <= 1; told++) {
            check.throwing("kilometres 0", Check.ARGUMENT, () -> x.foretell(3, 0, 0));
            check.throwing("kilometres -1", Check.ARGUMENT, () -> x.foretell(3, -1, 0));
            check.throwing("kilometres 2001", Check.ARGUMENT, () -> x.foretell(3, 2001, 0));
            check.throwing("season -1", Check.ARGUMENT, () -> x.foretell(3, 1, -1));
            check.throwing("season 4", Check.ARGUMENT, () -> x.foretell(3, 1, 4));
            x.gate(3, 0);
        }
    }

    private static void lifeOfWhatMoves() {
        WheelWorks x = Build.fullTrain();
        Build.ride(x, 0, 100, 0);
        x.take(2);
        int bogie = Build.bogie(x, 0);
        x.fit(bogie, 1);
        Build.ride(x, 0, 30, 0);
        x.take(3);
        x.take(7);
        x.fit(3, 6);
        x.fit(7, 2);
        Build.ride(x, 0, 7, 0);
        due(x, 3, 107);
        due(x, 7, 130);
        due(x, 4, 100);
        due(x, 2, 100);
        due(x, bogie, 37);
        due(x, bogie + 1, 37);
        due(x, 0, 137);
        x.take(4);
        x.scrap(4);
        due(x, 4, 100);
        lifeOfPartZero();
        check.throwing("lifeAnew of none", Check.INDEX, () -> x.lifeAnew(60));
        check.throwing("lifeAnew of -1", Check.INDEX, () -> x.lifeAnew(-1));
    }

    /** Part 0 is no train here, and is asked again when it has moved on. */
    private static void lifeOfPartZero() {
        WheelWorks x = new WheelWorks();
        int motor = x.part(WheelWorks.MOTOR, 0, 0);
        int train = Build.train(x, 0);
        Build.ride(x, train, 10, 0);
        due(x, motor, 0);
        x.take(6);
        x.fit(motor, 3);
        Build.ride(x, train, 20, 0);
        due(x, motor, 20);
        due(x, motor, 20);
        due(x, 6, 10);
        x.take(motor);
        x.fit(6, 3);
        Build.ride(x, train, 40, 0);
        due(x, motor, 20);
        due(x, 6, 50);
        x.scrap(motor);
        due(x, motor, 20);
        due(x, motor, 20);
    }

    private static void due(WheelWorks x, int part, int life) {
        check.due("life of " + part, x.ofPart(part, 3), life);
        check.due("life anew of " + part, x.lifeAnew(part), life);
    }
}
