/** Builds what many tests start from. */
final class Build {
    /** A full train has so many parts, numbered from the train on in the order of {@link #train}. */
    static final int PARTS_OF_TRAIN = 19;

    static final int[] BOGIES_OF_TRAIN = {2, 6, 11, 15};

    private Build() {
    }

    static WheelWorks empty() {
        return new WheelWorks();
    }

    /** A works with one part of each kind in the store, each numbered as its kind. */
    static WheelWorks oneOfEach() {
        WheelWorks works = new WheelWorks();
        for (int kind = WheelWorks.TRAIN; kind <= WheelWorks.MOTOR; kind++) {
            works.part(kind, 0, 0);
        }
        return works;
    }

    /**
     * The train is 0; its coaches 1 and 10; their bogies 2, 6 and 11, 15; behind each bogie its two wheelsets
     * and its motor. The melt of each part is its kind.
     */
    static WheelWorks fullTrain() {
        WheelWorks works = new WheelWorks();
        train(works, 0);
        return works;
    }

    /** As fullTrain(), in a works that may have other parts already. */
    static int train(WheelWorks works, int mod) {
        int train = works.part(WheelWorks.TRAIN, WheelWorks.TRAIN, mod);
        for (int c = 0; c < 2; c++) {
            int coach = works.part(WheelWorks.COACH, WheelWorks.COACH, mod);
            works.fit(coach, train);
            for (int b = 0; b < 2; b++) {
                works.fit(bogie(works, mod), coach);
            }
        }
        return train;
    }

    /** A bogie with two wheelsets and a motor. */
    static int bogie(WheelWorks works, int mod) {
        int bogie = works.part(WheelWorks.BOGIE, WheelWorks.BOGIE, mod);
        works.fit(works.part(WheelWorks.WHEELSET, WheelWorks.WHEELSET, mod), bogie);
        works.fit(works.part(WheelWorks.WHEELSET, WheelWorks.WHEELSET, mod), bogie);
        works.fit(works.part(WheelWorks.MOTOR, WheelWorks.MOTOR, mod), bogie);
        return bogie;
    }

    /** Releases a train and lets it run. */
    static int ride(WheelWorks works, int train, int kilometres, int season) {
        int bar = works.release(train);
        if (bar != 0) {
            throw new AssertionError("the test's train is barred by " + bar);
        }
        return works.run(train, kilometres, season);
    }

    static WheelWorks trains(int many) {
        WheelWorks works = new WheelWorks();
        for (int i = 0; i < many; i++) {
            works.part(WheelWorks.TRAIN, 0, 0);
        }
        return works;
    }

    /** As many parts as go, all of them motors of melt 7. */
    static WheelWorks sixty() {
        WheelWorks works = new WheelWorks();
        for (int i = 0; i < 60; i++) {
            works.part(WheelWorks.MOTOR, 7, 0);
        }
        return works;
    }

    static WheelWorks released() {
        WheelWorks works = fullTrain();
        works.release(0);
        return works;
    }

    /** A full train, released, that waits for the night. */
    static WheelWorks waiting() {
        WheelWorks works = released();
        works.comes(0, 50);
        return works;
    }

    /** A full train, released, that stands on road 0. */
    static WheelWorks onRoad() {
        WheelWorks works = waiting();
        works.night();
        return works;
    }

    /** A full train, released, that stood on a road. */
    static WheelWorks outAgain() {
        WheelWorks works = onRoad();
        works.out();
        return works;
    }

    /** Parks train 0. */
    static void park(WheelWorks works) {
        works.comes(0, 50);
        works.night();
    }

    /** Of one of each kind, fits the wheelset into the bogie, and so on up to the train, which it parks. */
    static void parkOneOfEach(WheelWorks works) {
        works.fit(1, 0);
        works.fit(2, 1);
        works.fit(3, 2);
        park(works);
    }

    /** A full train of which wheelset 3 broke, so that all its parts are quarantined. */
    static WheelWorks broken() {
        WheelWorks works = fullTrain();
        works.flaw(3, 99);
        ride(works, 0, 500, 0);
        return works;
    }

    /** One of each kind, of which the wheelset 3 and the motor 4 are quarantined, with flaws of 20. */
    static WheelWorks quarantined() {
        WheelWorks works = oneOfEach();
        for (int part = WheelWorks.WHEELSET; part <= WheelWorks.MOTOR; part++) {
            works.flaw(part, 20);
            works.look(part, false);
        }
        return works;
    }

    /** One of each kind, all scrapped. */
    static WheelWorks scrapped() {
        WheelWorks works = oneOfEach();
        for (int part = WheelWorks.TRAIN; part <= WheelWorks.MOTOR; part++) {
            works.scrap(part);
        }
        return works;
    }

    /** Trains that wait, numbered from 0 in the order in which they came, with these times. */
    static WheelWorks evening(int... times) {
        WheelWorks works = trains(times.length);
        for (int i = 0; i < times.length; i++) {
            works.comes(i, times[i]);
        }
        return works;
    }

    static void turnAll(WheelWorks works) {
        for (int bogie : BOGIES_OF_TRAIN) {
            works.turn(bogie);
        }
    }

    /** Puts a new wheelset into the place of one, and answers it. */
    static int change(WheelWorks works, int wheelset) {
        int bogie = works.take(wheelset);
        int anew = works.part(WheelWorks.WHEELSET, WheelWorks.WHEELSET, 0);
        works.fit(anew, bogie);
        return anew;
    }

    /** A full train behind 98000 kilometres, with its fourth wheelsets since 8000; by some 230 calls. */
    static WheelWorks aged() {
        WheelWorks works = fullTrain();
        int[] wheelsets = {3, 4, 7, 8, 12, 13, 16, 17};
        for (int thousands = 2; thousands <= 98; thousands += 2) {
            ride(works, 0, 2000, 0);
            if (thousands % 30 == 0) {
                for (int i = 0; i < wheelsets.length; i++) {
                    wheelsets[i] = change(works, wheelsets[i]);
                }
            } else if (thousands % 10 == 0) {
                turnAll(works);
            }
        }
        return works;
    }
}
