/** Promises 1 to 6, and 20, 21, 23, that tell where parts are. */
public final class PartsTest {
    private static final Check check = new Check();

    public static void main(String[] args) {
        aNewObject();
        part();
        partThrows();
        limits();
        limitsThrow();
        fitPlaces();
        fitMods();
        fitThrows();
        fitThrowsInOrder();
        take();
        takeThrows();
        scrap();
        scrapThrows();
        headsOfTrees();
        traces();
        check.end();
    }

    private static void aNewObject() {
        WheelWorks x = new WheelWorks();
        check.throwing("host(0) of none", Check.INDEX, () -> x.host(0));
        check.due("the first part", x.part(WheelWorks.MOTOR, 0, 0), 0);
        check.due("recall of a new works", new WheelWorks().recall(0), 0);
        check.due("plan of a new works", new WheelWorks().plan(), 0);
        check.due("road of a new works", new WheelWorks().road(2, 0), WheelWorks.NONE);
        for (int kind = 0; kind <= 4; kind++) {
            check.due("limit of life at first", new WheelWorks().limits(kind, 5, 5, 5), 0);
        }
    }

    private static void part() {
        WheelWorks x = new WheelWorks();
        check.due("part(0, 0, 0)", x.part(0, 0, 0), 0);
        check.due("part(4, 9, 3)", x.part(4, 9, 3), 1);
        check.due("its kind", x.ofPart(1, 0), 4);
        check.due("its melt", x.ofPart(1, 1), 9);
        check.due("its mod", x.ofPart(1, 2), 3);
        check.due("its place", x.host(1), WheelWorks.NONE);
        check.due("its moves", x.ofPart(1, 8), 0);
        for (int number = 2; number < 60; number++) {
            check.due("part", x.part(number % 5, number % 10, number % 4), number);
        }
        check.throwing("the 61st part", Check.STATE, () -> x.part(0, 0, 0));
        check.throwing("the 61st part, out of range", Check.ARGUMENT, () -> x.part(5, 0, 0));
        check.due("the last part", x.ofPart(59, 1), 9);
        check.throwing("part 60", Check.INDEX, () -> x.host(60));
    }

    private static void partThrows() {
        WheelWorks x = new WheelWorks();
        check.throwing("kind -1", Check.ARGUMENT, () -> x.part(-1, 0, 0));
        check.throwing("kind 5", Check.ARGUMENT, () -> x.part(5, 0, 0));
        check.throwing("melt -1", Check.ARGUMENT, () -> x.part(0, -1, 0));
        check.throwing("melt 10", Check.ARGUMENT, () -> x.part(0, 10, 0));
        check.throwing("mod -1", Check.ARGUMENT, () -> x.part(0, 0, -1));
        check.throwing("mod 4", Check.ARGUMENT, () -> x.part(0, 0, 4));
        check.throwing("the least kind", Check.ARGUMENT, () -> x.part(Integer.MIN_VALUE, 0, 0));
        check.throwing("the greatest melt", Check.ARGUMENT, () -> x.part(0, Integer.MAX_VALUE, 0));
        check.due("no part came of that", x.part(0, 0, 0), 0);
    }

    private static void limits() {
        WheelWorks x = new WheelWorks();
        check.due("limits of motors", x.limits(4, 99999, 99999, 99999), 0);
        check.due("limits of motors again", x.limits(4, 1, 2, 3), 99999);
        check.due("limits of trains", x.limits(0, 7, 0, 0), 0);
        check.due("none for trains", x.limits(0, 0, 0, 0), 7);
        check.due("motors have theirs", x.limits(4, 0, 0, 0), 1);
    }

    private static void limitsThrow() {
        WheelWorks x = new WheelWorks();
        x.limits(2, 10, 20, 30);
        check.throwing("kind -1", Check.ARGUMENT, () -> x.limits(-1, 0, 0, 0));
        check.throwing("kind 5", Check.ARGUMENT, () -> x.limits(5, 0, 0, 0));
        check.throwing("life -1", Check.ARGUMENT, () -> x.limits(2, -1, 0, 0));
        check.throwing("life 100000", Check.ARGUMENT, () -> x.limits(2, 100000, 0, 0));
        check.throwing("interval -1", Check.ARGUMENT, () -> x.limits(2, 1, -1, 0));
        check.throwing("interval 100000", Check.ARGUMENT, () -> x.limits(2, 1, 100000, 0));
        check.throwing("window -1", Check.ARGUMENT, () -> x.limits(2, 1, 0, -1));
        check.throwing("window 100000", Check.ARGUMENT, () -> x.limits(2, 1, 0, 100000));
        check.due("the limit stays", x.limits(2, 0, 0, 0), 10);
    }

    private static void fitPlaces() {
        for (int host = 0; host <= 4; host++) {
            for (int kind = 0; kind <= 4; kind++) {
                fitAsManyAsGo(host, kind, placesDue(host, kind));
            }
        }
        WheelWorks x = new WheelWorks();
        int bogie = x.part(2, 0, 0);
        for (int kind : new int[] {4, 3, 4, 3, 3}) {
            x.part(kind, 0, 0);
        }
        check.due("a motor", x.fit(1, bogie), 1);
        check.due("a wheelset beside it", x.fit(2, bogie), 2);
        check.throwing("a second motor", Check.STATE, () -> x.fit(3, bogie));
        check.due("a second wheelset", x.fit(4, bogie), 3);
        check.throwing("a third wheelset", Check.STATE, () -> x.fit(5, bogie));
        check.due("the second motor is in the store", x.host(3), WheelWorks.NONE);
    }

    private static int placesDue(int host, int kind) {
        if (host == 2 && kind == 4) {
            return 1;
        }
        return host <= 2 && kind == host + 1 ? 2 : 0;
    }

    private static void fitAsManyAsGo(int host, int kind, int places) {
        WheelWorks x = new WheelWorks();
        x.part(host, 0, 0);
        for (int i = 1; i <= 3; i++) {
            x.part(kind, 0, 0);
        }
        for (int i = 1; i <= 3; i++) {
            int number = i;
            String what = "fit of kind " + kind + " into kind " + host;
            if (places == 0) {
                check.throwing(what, Check.ARGUMENT, () -> x.fit(number, 0));
            } else if (i > places) {
                check.throwing(what, Check.STATE, () -> x.fit(number, 0));
            } else {
                check.due(what, x.fit(number, 0), i);
                check.due("host after " + what, x.host(number), 0);
            }
        }
        check.throwing("fit into itself", Check.ARGUMENT, () -> x.fit(0, 0));
    }

    private static void fitMods() {
        for (int hostMod = 0; hostMod <= 3; hostMod++) {
            for (int mod = 0; mod <= 3; mod++) {
                WheelWorks x = new WheelWorks();
                x.part(1, 0, hostMod);
                x.part(2, 0, mod);
                if (mod - hostMod > 1 || hostMod - mod > 1) {
                    check.throwing("mods " + mod + " and " + hostMod, Check.STATE, () -> x.fit(1, 0));
                } else {
                    check.due("mods " + mod + " and " + hostMod, x.fit(1, 0), 1);
                }
            }
        }
    }

    private static void fitThrows() {
        WheelWorks x = new WheelWorks();
        x.part(2, 0, 0);
        x.part(3, 0, 0);
        x.part(2, 0, 0);
        x.part(1, 0, 0);
        x.part(3, 0, 0);
        x.fit(1, 0);
        check.throwing("a part in a host", Check.STATE, () -> x.fit(1, 2));
        check.throwing("a part in that host", Check.STATE, () -> x.fit(1, 0));
        x.scrap(4);
        check.throwing("a scrapped part", Check.STATE, () -> x.fit(4, 2));
        x.take(1);
        x.flaw(1, 50);
        x.look(1, true);
        check.throwing("a quarantined part", Check.STATE, () -> x.fit(1, 2));
        x.clear(1);
        check.due("a cleared part", x.fit(1, 2), 1);
        x.scrap(3);
        check.throwing("into a scrapped host", Check.STATE, () -> x.fit(0, 3));
        check.due("a part with a quarantined host fits", fitIntoQuarantined(), 2);
        check.due("a part with a quarantined part in it fits", fitWithQuarantinedInside(), 1);
    }

    /** Only a break quarantines a bogie. */
    private static int fitIntoQuarantined() {
        WheelWorks x = Build.fullTrain();
        x.flaw(3, 99);
        check.due("it breaks", Build.ride(x, 0, 500, 0), 3);
        x.take(2);
        x.take(4);
        x.take(5);
        x.clear(5);
        check.due("the bogie is quarantined", x.ofPart(2, 6), 1);
        return x.fit(5, 2);
    }

    private static int fitWithQuarantinedInside() {
        WheelWorks x = new WheelWorks();
        int bogie = Build.bogie(x, 0);
        x.flaw(1, 10);
        x.look(1, false);
        check.due("the wheelset is quarantined", x.ofPart(1, 6), 1);
        return x.fit(bogie, x.part(1, 0, 0));
    }

    private static void fitThrowsInOrder() {
        WheelWorks x = Build.oneOfEach();
        check.throwing("no such part", Check.INDEX, () -> x.fit(5, 0));
        check.throwing("part -1", Check.INDEX, () -> x.fit(-1, 0));
        check.throwing("no such host", Check.INDEX, () -> x.fit(1, 5));
        check.throwing("host -1", Check.INDEX, () -> x.fit(1, -1));
        check.throwing("neither", Check.INDEX, () -> x.fit(Integer.MAX_VALUE, Integer.MIN_VALUE));
        x.fit(1, 0);
        check.throwing("wrong kinds, and in a host", Check.ARGUMENT, () -> x.fit(1, 2));
        x.scrap(4);
        check.throwing("wrong kinds, and scrapped", Check.ARGUMENT, () -> x.fit(4, 0));
        x.comes(0, 0);
        x.night();
        check.throwing("wrong kinds, and bound", Check.ARGUMENT, () -> x.fit(3, 0));
        int coach = x.part(1, 0, 0);
        check.throwing("into a train on a road", Check.STATE, () -> x.fit(coach, 0));
        check.throwing("into a coach of it", Check.STATE, () -> x.fit(2, 1));
        x.out();
        check.due("into a coach of it when it is out", x.fit(2, 1), 1);
        check.due("into the train when it is out", x.fit(coach, 0), 2);
    }

    private static void take() {
        WheelWorks x = Build.fullTrain();
        check.due("take(2)", x.take(2), 1);
        check.due("its place", x.host(2), WheelWorks.NONE);
        check.due("what is in it stays", x.host(3), 2);
        check.due("its head", x.head(2), 2);
        check.due("head of what is in it", x.head(5), 2);
        check.due("into the other place again", x.fit(2, 1), 2);
        check.due("take of a wheelset", x.take(17), 15);
        check.due("the bogie has a place", x.fit(17, 15), 3);
    }

    private static void takeThrows() {
        WheelWorks x = Build.oneOfEach();
        check.throwing("take(5)", Check.INDEX, () -> x.take(5));
        check.throwing("take(-1)", Check.INDEX, () -> x.take(-1));
        check.throwing("in no host", Check.STATE, () -> x.take(1));
        check.throwing("a train", Check.STATE, () -> x.take(0));
        x.scrap(4);
        check.throwing("scrapped", Check.STATE, () -> x.take(4));
        x.fit(1, 0);
        x.fit(2, 1);
        x.comes(0, 9);
        check.due("of a train that waits", x.take(2), 1);
        x.fit(2, 1);
        x.night();
        check.throwing("of a train on a road", Check.STATE, () -> x.take(1));
        check.throwing("deep in a train on a road", Check.STATE, () -> x.take(2));
        x.out();
        check.due("when it is out", x.take(1), 0);
        check.due("now deep in a coach", x.take(2), 1);
    }

    private static void scrap() {
        WheelWorks x = Build.oneOfEach();
        for (int part = 0; part <= 4; part++) {
            x.scrap(part);
            check.due("host of scrap", x.host(part), WheelWorks.SCRAPPED);
            check.due("head of scrap", x.head(part), part);
            check.due("moves of scrap", x.ofPart(part, 8), 1);
            check.due("trace of scrap", x.trace(part, 0), WheelWorks.SCRAPPED);
        }
        check.due("a scrapped train is barred", x.release(0), 1);
        check.due("a scrapped wheelset is measured", x.gate(3, 5), 305);
        check.due("a scrapped motor has a flaw", x.flaw(4, 9), 0);
        check.due("no scrap is recalled", x.recall(0), 0);
        x.limits(4, 0, 5, 5);
        x.waive(4, 7);
        check.due("waived of scrap", x.ofPart(4, 5), 7);
    }

    private static void scrapThrows() {
        WheelWorks x = Build.oneOfEach();
        check.throwing("scrap(5)", Check.INDEX, () -> x.scrap(5));
        check.throwing("scrap(-1)", Check.INDEX, () -> x.scrap(-1));
        x.fit(4, 2);
        check.throwing("in a host", Check.STATE, () -> x.scrap(4));
        check.throwing("something in it", Check.STATE, () -> x.scrap(2));
        x.take(4);
        x.scrap(4);
        check.throwing("scrapped", Check.STATE, () -> x.scrap(4));
        x.comes(0, 9);
        check.throwing("waits", Check.STATE, () -> x.scrap(0));
        x.night();
        check.throwing("stands on a road", Check.STATE, () -> x.scrap(0));
        x.out();
        x.scrap(0);
        check.due("gone out, and scrapped", x.host(0), WheelWorks.SCRAPPED);
    }

    private static void headsOfTrees() {
        WheelWorks x = Build.fullTrain();
        for (int part = 0; part < Build.PARTS_OF_TRAIN; part++) {
            check.due("head of " + part, x.head(part), 0);
        }
        check.throwing("head(19)", Check.INDEX, () -> x.head(19));
        check.throwing("head(-1)", Check.INDEX, () -> x.head(-1));
        check.throwing("host(19)", Check.INDEX, () -> x.host(19));
        check.throwing("host(-1)", Check.INDEX, () -> x.host(-1));
        x.take(10);
        check.due("head of the coach", x.head(10), 10);
        check.due("head of a bogie in it", x.head(11), 10);
        check.due("head of a motor in that", x.head(14), 10);
        check.due("head of the other coach", x.head(1), 0);
        check.due("a train is in the store", x.host(0), WheelWorks.NONE);
    }

    private static void traces() {
        WheelWorks x = new WheelWorks();
        x.part(1, 0, 0);
        x.part(1, 0, 0);
        x.part(2, 0, 0);
        check.throwing("no move yet", Check.INDEX, () -> x.trace(2, 0));
        x.fit(2, 0);
        x.take(2);
        x.fit(2, 1);
        x.take(2);
        x.scrap(2);
        int[] due = {0, WheelWorks.NONE, 1, WheelWorks.NONE, WheelWorks.SCRAPPED};
        check.due("moves", x.ofPart(2, 8), due.length);
        for (int move = 0; move < due.length; move++) {
            check.due("trace(2, " + move + ")", x.trace(2, move), due[move]);
        }
        check.throwing("move 5", Check.INDEX, () -> x.trace(2, 5));
        check.throwing("move -1", Check.INDEX, () -> x.trace(2, -1));
        check.throwing("the least move", Check.INDEX, () -> x.trace(2, Integer.MIN_VALUE));
        check.throwing("the greatest move", Check.INDEX, () -> x.trace(2, Integer.MAX_VALUE));
        check.throwing("trace of part 3", Check.INDEX, () -> x.trace(3, 0));
        check.throwing("trace of part -1", Check.INDEX, () -> x.trace(-1, 0));
        check.throwing("a host has not moved", Check.INDEX, () -> x.trace(0, 0));
        check.due("moves of a host", x.ofPart(0, 8), 0);
    }
}
