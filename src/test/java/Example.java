/** A train is put together, runs, is worked on, and stands on a road for the night. */
public final class Example {
    public static void main(String[] args) {
        WheelWorks works = new WheelWorks();
        works.limits(WheelWorks.BOGIE, 50000, 1500, 300);    // life, interval and window, in kilometres
        int train = works.part(WheelWorks.TRAIN, 0, 1);      // kind, melt and mod; it is part 0
        for (int c = 0; c < 2; c++) {
            int coach = works.part(WheelWorks.COACH, 1, 1);
            works.fit(coach, train);
            for (int b = 0; b < 2; b++) {
                addBogie(works, coach);
            }
        }
        runs(works, train);
        work(works, train);
        night(works, train);
    }

    private static void addBogie(WheelWorks works, int coach) {
        int bogie = works.part(WheelWorks.BOGIE, 2, 1);
        works.fit(bogie, coach);
        works.fit(works.part(WheelWorks.WHEELSET, 7, 2), bogie);
        works.fit(works.part(WheelWorks.WHEELSET, 7, 2), bogie);
        works.fit(works.part(WheelWorks.MOTOR, 8, 0), bogie);
    }

    private static void runs(WheelWorks works, int train) {
        int wheelset = 3;                                    // in bogie 2, in coach 1
        tell("release: barred by", works.release(train));    // nothing bars it, so that it may run once
        tell("run: part that breaks", works.run(train, 2000, 2));
        tell("diameter", works.wheel(wheelset, 0));
        tell("flange", works.wheel(wheelset, 1));
        tell("gate tells", works.gate(wheelset, -2));
        tell("days at 100 kilometres", works.foretell(wheelset, 100, 0));
    }

    private static void work(WheelWorks works, int train) {
        tell("bars", works.bars(train));                     // an examination is due
        tell("barred by part", works.barredBy(train));
        for (int bogie : new int[] {2, 6, 11, 15}) {
            works.examine(bogie);
            works.turn(bogie);
        }
        tell("diameter behind the lathe", works.wheel(3, 0));
        works.flaw(5, 40);
        tell("found by sound", works.look(5, false));        // the motor is quarantined by that
        tell("bars", works.bars(train));
        tell("flaw that is cleared", works.clear(5));
        tell("release: barred by", works.release(train));
    }

    private static void night(WheelWorks works, int train) {
        int other = works.part(WheelWorks.TRAIN, 0, 0);
        works.comes(train, 30);                              // goes out at 30
        works.comes(other, 60);
        tell("moves of the night", works.night());
        tell("first on road 1", works.road(1, 0));
        try {
            works.take(1);
        } catch (IllegalStateException e) {
            System.out.println("what stands on a road is bound");
        }
        tell("moves as the first goes out", works.out());
    }

    private static void tell(String what, int answer) {
        System.out.println(what + ": " + answer);
    }
}
