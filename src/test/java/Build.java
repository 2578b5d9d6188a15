/** Builds what many tests start from. */
final class Build {
    /** A full train has so many parts, numbered from the train on in the order of {@link #train}. */
    static final int PARTS_OF_TRAIN = 19;

    private Build() {
    }

    static WheelWorks empty() {
        return new WheelWorks();
    }

    /** A works with one part of each kind in the store, each numbered as its kind. */
    static WheelWorks oneOfEach() {
        WheelWorks works = new WheelWorks();
        for (int kind = WheelWorks.TRAIN; kind <= WheelWorks.MOTOR; kind++) {
            works.part(kind, 0, 0);
        }
        return works;
    }

    /**
     * The train is 0; its coaches 1 and 10; their bogies 2, 6 and 11, 15; behind each bogie its two wheelsets
     * and its motor. The melt of each part is its kind.
     */
    static WheelWorks fullTrain() {
        WheelWorks works = new WheelWorks();
        train(works, 0);
        return works;
    }

    /** As fullTrain(), in a works that may have other parts already. */
    static int train(WheelWorks works, int mod) {
        int train = works.part(WheelWorks.TRAIN, WheelWorks.TRAIN, mod);
        for (int c = 0; c < 2; c++) {
            int coach = works.part(WheelWorks.COACH, WheelWorks.COACH, mod);
            works.fit(coach, train);
            for (int b = 0; b < 2; b++) {
                works.fit(bogie(works, mod), coach);
            }
        }
        return train;
    }

    /** A bogie with two wheelsets and a motor. */
    static int bogie(WheelWorks works, int mod) {
        int bogie = works.part(WheelWorks.BOGIE, WheelWorks.BOGIE, mod);
        works.fit(works.part(WheelWorks.WHEELSET, WheelWorks.WHEELSET, mod), bogie);
        works.fit(works.part(WheelWorks.WHEELSET, WheelWorks.WHEELSET, mod), bogie);
        works.fit(works.part(WheelWorks.MOTOR, WheelWorks.MOTOR, mod), bogie);
        return bogie;
    }

    /** Releases a train and lets it run. */
    static int ride(WheelWorks works, int train, int kilometres, int season) {
        int bar = works.release(train);
        if (bar != 0) {
            throw new AssertionError("the test's train is barred by " + bar);
        }
        return works.run(train, kilometres, season);
    }

    static WheelWorks trains(int many) {
        WheelWorks works = new WheelWorks();
        for (int i = 0; i < many; i++) {
            works.part(WheelWorks.TRAIN, 0, 0);
        }
        return works;
    }
}
