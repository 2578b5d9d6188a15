/** Promises 17 to 19 and 30 to 32: the evening, the plan, the night and the morning. */
public final class RoadsTest {
    private static final Check check = new Check();

    public static void main(String[] args) {
        comes();
        comesThrows();
        comesThrowsInOrder();
        timesOfThoseOnRoadsAreFree();
        nightThrows();
        outThrows();
        outByTime();
        trainsCloseUp();
        road();
        roadThrows();
        noneWait();
        fourOnARoad();
        roomIsNeeded();
        lowerRoadsFirst();
        planAsIfNoTrainStood();
        allPlansAsByTheirWords();
        check.end();
    }

    private static void comes() {
        WheelWorks x = Build.trains(9);
        for (int i = 0; i < 8; i++) {
            check.due("comes", x.comes(i, 99 - i * 14), i + 1);
        }
        check.throwing("a ninth one", Check.STATE, () -> x.comes(8, 50));
        WheelWorks y = Build.fullTrain();
        check.due("a full train", y.comes(0, 0), 1);
    }

    private static void comesThrows() {
        WheelWorks x = Build.trains(3);
        x.comes(0, 7);
        check.throwing("that time", Check.STATE, () -> x.comes(1, 7));
        check.throwing("it waits", Check.STATE, () -> x.comes(0, 8));
        x.scrap(1);
        check.throwing("scrapped", Check.STATE, () -> x.comes(1, 8));
        x.night();
        check.throwing("on a road", Check.STATE, () -> x.comes(0, 8));
        check.due("another one", x.comes(2, 8), 1);
        x.out();
        check.due("out, and back", x.comes(0, 9), 2);
        check.throwing("that time", Check.STATE, () -> x.comes(0, 8));
    }

    private static void comesThrowsInOrder() {
        WheelWorks x = Build.oneOfEach();
        check.throwing("no such train", Check.INDEX, () -> x.comes(5, 100));
        check.throwing("train -1", Check.INDEX, () -> x.comes(-1, 0));
        for (int kind = 1; kind <= 4; kind++) {
            int part = kind;
            check.throwing("kind " + kind, Check.ARGUMENT, () -> x.comes(part, 0));
        }
        x.comes(0, 0);
        check.throwing("time -1, and waits", Check.ARGUMENT, () -> x.comes(0, -1));
        check.throwing("time 100, and waits", Check.ARGUMENT, () -> x.comes(0, 100));
        check.due("none came of that", x.plan(), 0);
        check.due("another one", x.comes(x.part(0, 0, 0), 99), 2);
    }

    private static void timesOfThoseOnRoadsAreFree() {
        WheelWorks x = Build.trains(3);
        x.comes(0, 7);
        x.comes(1, 8);
        x.night();
        check.due("that time is on a road alone", x.comes(2, 7), 1);
        check.due("out", x.out(), 0);
        check.due("the other one stands", x.road(1, 0), 1);
        x.out();
        check.due("night", x.night(), 0);
        check.due("it stands now", x.road(0, 0), 2);
    }

    private static void nightThrows() {
        WheelWorks x = Build.trains(2);
        check.throwing("none waits", Check.STATE, x::night);
        x.comes(0, 1);
        check.due("one waits", x.night(), 0);
        check.throwing("none waits, one stands", Check.STATE, x::night);
        x.comes(1, 1);
        check.throwing("one stands", Check.STATE, x::night);
        check.due("the one that waits is not on a road", x.road(1, 0), WheelWorks.NONE);
        x.out();
        check.due("when it is out", x.night(), 0);
    }

    private static void outThrows() {
        WheelWorks x = Build.trains(1);
        check.throwing("none stands", Check.STATE, x::out);
        x.comes(0, 1);
        check.throwing("one waits", Check.STATE, x::out);
        x.night();
        check.due("one stands", x.out(), 0);
        check.throwing("it is gone", Check.STATE, x::out);
    }

    private static void outByTime() {
        WheelWorks x = Build.trains(4);
        int[] times = {30, 10, 40, 20};
        for (int i = 0; i < 4; i++) {
            x.comes(i, times[i]);
        }
        check.due("night", x.night(), 0);
        for (int train : new int[] {1, 3, 0, 2}) {
            check.throwing(train + " stands", Check.STATE, () -> x.comes(train, 0));
            check.due("out of " + train, x.out(), 0);
            check.due("it may come", x.comes(train, times[train]) > 0, true);
        }
    }

    /** All times rise, so that the order on the roads costs the most. */
    private static WheelWorks rising(int many) {
        int[] times = new int[many];
        for (int i = 0; i < many; i++) {
            times[i] = 10 * i;
        }
        return evening(times);
    }

    private static void trainsCloseUp() {
        WheelWorks x = rising(8);
        check.due("3, 3 and 1 moves", x.night(), 7);
        int[] due = {2, 1, 0, 2, 1, 0, 1, 0};
        int[] firstOfRoad = {1, 2, -1, -1, -1, -1, -1, -1};
        int[] firstOfNext = {3, 3, 3, 4, 5, -1, -1, -1};
        for (int i = 0; i < 8; i++) {
            check.due("out " + i, x.out(), due[i]);
            check.due("road 0 behind out " + i, x.road(0, 0), firstOfRoad[i]);
            check.due("road 1 behind out " + i, x.road(1, 0), firstOfNext[i]);
        }
    }

    private static void road() {
        WheelWorks x = rising(5);
        check.due("two moves", x.night(), 2);
        int[][] due = {{0, 1, -1, -1, -1}, {2, 3, -1, -1, -1}, {4, -1, -1, -1, -1}};
        for (int road = 0; road < 3; road++) {
            for (int place = 0; place < 5; place++) {
                check.due("road(" + road + ", " + place + ")", x.road(road, place), due[road][place]);
            }
            check.due("the greatest place", x.road(road, Integer.MAX_VALUE), WheelWorks.NONE);
        }
    }

    private static void roadThrows() {
        WheelWorks x = rising(8);
        x.night();
        check.throwing("road -1", Check.INDEX, () -> x.road(-1, 0));
        check.throwing("road 3", Check.INDEX, () -> x.road(3, 0));
        check.throwing("place -1", Check.INDEX, () -> x.road(0, -1));
        check.throwing("neither", Check.INDEX, () -> x.road(Integer.MIN_VALUE, Integer.MIN_VALUE));
    }

    private static void noneWait() {
        WheelWorks x = rising(5);
        check.due("plan", x.plan(), 2);
        check.due("planAnew", x.planAnew(), 2);
        check.due("plan again", x.plan(), 2);
        x.night();
        check.due("plan of none", x.plan(), 0);
        check.due("planAnew of none", x.planAnew(), 0);
    }

    /** Times fall, so that no train is ever in front of one that goes out first: roads are filled from 0 on. */
    private static void fourOnARoad() {
        WheelWorks x = Build.trains(8);
        for (int i = 0; i < 8; i++) {
            x.comes(i, 99 - i);
        }
        check.due("plan", x.plan(), 0);
        check.due("planAnew", x.planAnew(), 0);
        check.due("night", x.night(), 0);
        for (int place = 0; place < 4; place++) {
            check.due("road 0", x.road(0, place), place);
            check.due("road 1", x.road(1, place), place + 4);
            check.due("road 2", x.road(2, place), WheelWorks.NONE);
        }
        check.due("no fifth one", x.road(0, 4), WheelWorks.NONE);
        for (int i = 7; i >= 0; i--) {
            check.due("out", x.out(), 0);
            check.due("the place is empty", x.road(i / 4, i % 4), WheelWorks.NONE);
        }
    }

    /** Six fall and two are above all, so that a longer road would spare a move. */
    private static void roomIsNeeded() {
        WheelWorks x = evening(60, 50, 40, 30, 20, 10, 80, 90);
        check.due("planAnew, asked first", x.planAnew(), 1);
        check.due("plan", x.plan(), 1);
        check.due("night", x.night(), 1);
        check.due("four on road 0", x.road(0, 3), 3);
        check.due("two on road 1", x.road(1, 1), 5);
        check.due("80 on road 2", x.road(2, 0), 6);
        check.due("90 in front of it", x.road(2, 1), 7);
        check.due("planAnew of five that fall, and two", evening(50, 40, 30, 20, 10, 80, 90).planAnew(), 1);
        check.due("plan of five that fall, and two", evening(50, 40, 30, 20, 10, 80, 90).plan(), 1);
        check.due("planAnew of a new evening", evening(10, 20, 30, 40).planAnew(), 1);
        check.due("plan of a new evening", evening(10, 20, 30, 40).plan(), 1);
        check.due("night of a new evening", evening(10, 20, 30, 40).night(), 1);
    }

    private static WheelWorks evening(int... times) {
        WheelWorks x = Build.trains(times.length);
        for (int i = 0; i < times.length; i++) {
            x.comes(i, times[i]);
        }
        return x;
    }

    private static void lowerRoadsFirst() {
        WheelWorks x = evening(50, 60, 40, 45);
        check.due("night", x.night(), 0);
        check.due("50 on road 0", x.road(0, 0), 0);
        check.due("60 on road 1", x.road(1, 0), 1);
        check.due("40 before 50 on road 0", x.road(0, 1), 2);
        check.due("45 before 60 on road 1", x.road(1, 1), 3);
    }

    private static void planAsIfNoTrainStood() {
        WheelWorks x = Build.trains(16);
        for (int i = 0; i < 8; i++) {
            x.comes(i, i);
        }
        x.night();
        for (int i = 0; i < 8; i++) {
            x.comes(8 + i, i);
            check.due("planAnew", x.planAnew(), x.plan());
        }
        check.due("as if none stood", x.plan(), 7);
        for (int i = 0; i < 8; i++) {
            x.out();
        }
        check.due("night", x.night(), 7);
        check.due("in front", x.out(), 2);
    }

    /** Many evenings, each against all plans, of which each is played through to its end. */
    private static void allPlansAsByTheirWords() {
        Numbers numbers = new Numbers(7);
        for (int round = 0; round < 150; round++) {
            int many = 1 + numbers.below(8);
            int[] times = new int[many];
            for (int i = 0; i < many; i++) {
                times[i] = i * 12 + numbers.below(12);
                int other = numbers.below(i + 1);
                int time = times[other];
                times[other] = times[i];
                times[i] = time;
            }
            WheelWorks x = evening(times);
            int[] roads = Parking.best(times);
            int moves = Parking.moves(times, roads);
            check.due("plan", x.plan(), moves);
            check.due("planAnew", x.planAnew(), moves);
            check.due("night", x.night(), moves);
            int[] places = new int[3];
            for (int i = 0; i < many; i++) {
                check.due("road of " + i, x.road(roads[i], places[roads[i]]++), i);
            }
            int moved = 0;
            for (int i = 0; i < many; i++) {
                moved += x.out();
            }
            check.due("all moves of the morning", moved, moves);
        }
    }
}
