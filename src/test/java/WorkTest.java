/** Promises 10 to 15, and what of 7 has to do with flaws: examinations, waivers, flaws, quarantine, recalls. */
public final class WorkTest {
    private static final Check check = new Check();

    public static void main(String[] args) {
        examine();
        examineEdges();
        examineThrows();
        waive();
        waiveThrows();
        flaw();
        flawThrows();
        flawGrows();
        flawGrowsSinceTold();
        flawGrowsRunByRun();
        breaks();
        breaksManyAndTheLowestIsTold();
        lookBySound();
        lookByMagnets();
        lookThrows();
        lookEndsARelease();
        clear();
        clearThrows();
        recall();
        recallEndsAtMagnets();
        recallThrows();
        check.end();
    }

    private static void examine() {
        WheelWorks x = Build.fullTrain();
        Build.ride(x, 0, 700, 0);
        x.limits(WheelWorks.BOGIE, 0, 1000, 300);
        x.waive(2, 999);
        check.due("examine at the window's edge", x.examine(2), 700);
        check.due("kilometres since", x.ofPart(2, 4), 0);
        check.due("waived", x.ofPart(2, 5), 0);
        check.due("life", x.ofPart(2, 3), 700);
        check.due("of another bogie", x.ofPart(6, 4), 700);
        Build.ride(x, 0, 5, 0);
        check.due("kilometres since", x.ofPart(2, 4), 5);
        check.due("examine of another", x.examine(6), 705);
    }

    private static void examineEdges() {
        WheelWorks x = Build.fullTrain();
        Build.ride(x, 0, 699, 0);
        x.limits(WheelWorks.BOGIE, 0, 1000, 300);
        check.throwing("before the window", Check.STATE, () -> x.examine(2));
        x.limits(WheelWorks.BOGIE, 0, 0, 300);
        check.throwing("no interval", Check.STATE, () -> x.examine(2));
        x.limits(WheelWorks.BOGIE, 0, 699, 0);
        check.due("no window", x.examine(2), 699);
        check.throwing("just examined", Check.STATE, () -> x.examine(2));
        x.limits(WheelWorks.BOGIE, 0, 5, 99999);
        check.due("a window above the interval", x.examine(2), 0);
        check.due("again", x.examine(2), 0);
        x.limits(WheelWorks.BOGIE, 0, 5, 5);
        check.due("a window as the interval", x.examine(2), 0);
        x.limits(WheelWorks.BOGIE, 0, 5, 4);
        check.throwing("a window below the interval", Check.STATE, () -> x.examine(2));
        check.throwing("a coach without an interval", Check.STATE, () -> x.examine(1));
    }

    private static void examineThrows() {
        WheelWorks x = Build.oneOfEach();
        check.throwing("no such part", Check.INDEX, () -> x.examine(5));
        check.throwing("part -1", Check.INDEX, () -> x.examine(-1));
        for (int kind = 0; kind <= 4; kind++) {
            x.limits(kind, 0, 1, 1);
            check.due("examine of each kind", x.examine(kind), 0);
        }
        x.scrap(4);
        check.throwing("scrapped", Check.STATE, () -> x.examine(4));
        x.fit(1, 0);
        x.comes(0, 0);
        check.due("of a train that waits", x.examine(1), 0);
        x.night();
        check.throwing("a train on a road", Check.STATE, () -> x.examine(0));
        check.throwing("in a train on a road", Check.STATE, () -> x.examine(1));
        check.due("not in that train", x.examine(2), 0);
        x.out();
        check.due("when it is out", x.examine(1), 0);
    }

    private static void waive() {
        WheelWorks x = Build.fullTrain();
        x.limits(WheelWorks.MOTOR, 0, 100, 50);
        Build.ride(x, 0, 101, 0);
        check.due("due", x.bars(0), 7);
        check.due("due of the lowest", x.barredBy(0), 5);
        x.waive(5, 1);
        check.due("waived", x.ofPart(5, 5), 1);
        check.due("the next one", x.barredBy(0), 9);
        x.waive(9, 1);
        x.waive(14, 1);
        x.waive(18, 1);
        Build.ride(x, 0, 1, 0);
        check.due("due again", x.barredBy(0), 5);
        check.throwing("waived before", Check.STATE, () -> x.waive(5, 2));
        check.due("waived as before", x.ofPart(5, 5), 1);
        x.examine(5);
        x.waive(5, 999);
        check.due("waived anew", x.ofPart(5, 5), 999);
        check.throwing("once", Check.STATE, () -> x.waive(5, 1));
        x.comes(0, 0);
        x.night();
        x.limits(WheelWorks.COACH, 0, 1, 0);
        x.waive(1, 3);
        check.due("waived on a road", x.ofPart(1, 5), 3);
    }

    private static void waiveThrows() {
        WheelWorks x = Build.oneOfEach();
        check.throwing("no such part", Check.INDEX, () -> x.waive(5, 0));
        check.throwing("part -1", Check.INDEX, () -> x.waive(-1, 1));
        check.throwing("kilometres 0, no interval", Check.ARGUMENT, () -> x.waive(0, 0));
        check.throwing("no interval", Check.STATE, () -> x.waive(0, 1));
        x.limits(0, 0, 1, 0);
        check.throwing("kilometres 0", Check.ARGUMENT, () -> x.waive(0, 0));
        check.throwing("kilometres -1", Check.ARGUMENT, () -> x.waive(0, -1));
        check.throwing("kilometres 1000", Check.ARGUMENT, () -> x.waive(0, 1000));
        x.waive(0, 999);
        check.throwing("kilometres 1000, waived", Check.ARGUMENT, () -> x.waive(0, 1000));
        check.throwing("waived", Check.STATE, () -> x.waive(0, 999));
        x.limits(0, 0, 0, 0);
        check.throwing("no interval any more", Check.STATE, () -> x.waive(0, 1));
        check.due("what was waived stays", x.ofPart(0, 5), 999);
    }

    private static void flaw() {
        WheelWorks x = Build.oneOfEach();
        check.due("first", x.flaw(3, 99), 0);
        check.due("in place of that", x.flaw(3, 1), 99);
        check.due("again", x.flaw(3, 50), 1);
        check.due("of a motor", x.flaw(4, 7), 0);
        check.due("it quarantines nothing", x.ofPart(3, 6), 0);
    }

    private static void flawThrows() {
        WheelWorks x = Build.oneOfEach();
        check.throwing("no such part", Check.INDEX, () -> x.flaw(5, 0));
        check.throwing("part -1", Check.INDEX, () -> x.flaw(-1, 1));
        for (int kind = 0; kind <= 2; kind++) {
            int part = kind;
            check.throwing("kind " + kind, Check.ARGUMENT, () -> x.flaw(part, 1));
        }
        check.throwing("size 0", Check.ARGUMENT, () -> x.flaw(3, 0));
        check.throwing("size -1", Check.ARGUMENT, () -> x.flaw(3, -1));
        check.throwing("size 100", Check.ARGUMENT, () -> x.flaw(4, 100));
        check.due("no flaw came of that", x.flaw(3, 1), 0);
        check.due("nor of that", x.flaw(4, 1), 0);
    }

    private static void flawGrows() {
        WheelWorks x = Build.fullTrain();
        x.flaw(3, 9);
        x.flaw(5, 60);
        Build.ride(x, 0, 499, 0);
        check.due("not yet", x.look(5, false), 60);
        x.clear(5);
        x.flaw(9, 60);
        Build.ride(x, 0, 1, 2);
        check.due("9 and 1", x.look(3, false), 10);
        check.due("quarantined", x.bars(0), 2);
        x.clear(3);
        x.flaw(3, 10);
        Build.ride(x, 0, 2000, 0);
        check.due("10, 12, 14, 16, 18", x.look(3, false), 18);
        check.due("60, 67, 74, 82, 91 behind 2001", x.look(9, false), 91);
    }

    private static void flawGrowsSinceTold() {
        WheelWorks x = Build.fullTrain();
        Build.ride(x, 0, 300, 0);
        x.flaw(3, 20);
        x.flaw(5, 30);
        Build.ride(x, 0, 499, 0);
        x.flaw(5, 30);
        check.due("not by its life", x.flaw(3, 20), 20);
        Build.ride(x, 0, 1, 0);
        check.due("told anew, it begins anew", x.flaw(3, 21), 20);
        Build.ride(x, 0, 498, 0);
        check.due("30 for 499 kilometres", x.flaw(5, 40), 30);
        Build.ride(x, 0, 2, 0);
        check.due("21 and 3", x.flaw(3, 1), 24);
        x.take(5);
        int motor = x.part(WheelWorks.MOTOR, 0, 0);
        x.fit(motor, 2);
        Build.ride(x, 0, 2000, 0);
        check.due("what is in the store does not grow", x.look(5, true), 40);
        check.due("1, 2, 3, 4, 5", x.flaw(3, 1), 5);
    }

    private static void flawGrowsRunByRun() {
        int[] due = {20, 23, 26, 29, 32, 36};
        for (int runs = 0; runs < due.length; runs++) {
            WheelWorks x = Build.fullTrain();
            x.flaw(3, 20);
            for (int i = 0; i < runs; i++) {
                Build.ride(x, 0, 500, 0);
            }
            check.due("500 kilometres " + runs + " times", x.flaw(3, 1), due[runs]);
        }
    }

    private static void breaks() {
        WheelWorks x = Build.fullTrain();
        int spare = x.part(WheelWorks.MOTOR, 0, 0);
        x.flaw(16, 90);
        check.due("90 and 10", Build.ride(x, 0, 500, 0), 16);
        for (int part = 0; part < Build.PARTS_OF_TRAIN; part++) {
            check.due("quarantined " + part, x.ofPart(part, 6), 1);
            check.due("life " + part, x.ofPart(part, 3), 500);
        }
        check.due("not in the tree", x.ofPart(spare, 6), 0);
        check.due("barred", x.release(0), 2);
        check.due("by", x.barredBy(0), 0);
        check.due("flaw", x.clear(16), 100);
        for (int part = 0; part < 16; part++) {
            check.due("cleared", x.clear(part), 0);
        }
        check.due("barred by", x.barredBy(0), 17);
        x.clear(17);
        x.clear(18);
        check.due("released again", x.release(0), 0);
        check.due("no flaw, no break", x.run(0, 2000, 0), WheelWorks.NONE);
        WheelWorks y = Build.fullTrain();
        y.flaw(16, 89);
        check.due("89 and 9", Build.ride(y, 0, 999, 0), WheelWorks.NONE);
        check.due("98", y.look(16, false), 98);
        check.due("it alone is quarantined", y.ofPart(15, 6), 0);
        WheelWorks z = Build.fullTrain();
        z.flaw(16, 99);
        check.due("99 that has not grown", Build.ride(z, 0, 499, 0), WheelWorks.NONE);
        check.due("99 that grows", Build.ride(z, 0, 1, 0), 16);
    }

    private static void breaksManyAndTheLowestIsTold() {
        WheelWorks x = Build.fullTrain();
        x.flaw(9, 99);
        x.flaw(17, 99);
        x.flaw(3, 50);
        check.due("the lowest", Build.ride(x, 0, 500, 0), 9);
        check.due("flaw of 9", x.look(9, false), 109);
        check.due("flaw of 17", x.look(17, false), 109);
        check.due("flaw of 3", x.look(3, false), 56);
        x.take(9);
        check.due("a flaw above 99 is told by magnets", x.look(9, true), 109);
        check.due("in place of a broken one", x.flaw(9, 2), 109);
        check.due("it stays in quarantine", x.ofPart(9, 6), 1);
        check.due("its flaw", x.clear(9), 2);
    }

    private static void lookBySound() {
        WheelWorks x = Build.oneOfEach();
        check.due("nothing", x.look(3, false), 0);
        x.flaw(3, 9);
        check.due("9", x.look(3, false), 0);
        check.due("not quarantined", x.ofPart(3, 6), 0);
        x.flaw(3, 10);
        check.due("10", x.look(3, false), 10);
        check.due("quarantined", x.ofPart(3, 6), 1);
        check.due("10 again", x.look(3, false), 10);
        x.flaw(4, 99);
        x.fit(4, 2);
        check.due("in a host", x.look(4, false), 99);
        for (int part = 0; part <= 2; part++) {
            check.due("a part without a flaw", x.look(part, false), 0);
        }
        x.recall(0);
        x.look(2, false);
        check.due("sound ends no recall", x.ofPart(2, 7), 1);
    }

    private static void lookByMagnets() {
        WheelWorks x = Build.oneOfEach();
        x.flaw(3, 2);
        check.due("2", x.look(3, true), 0);
        check.due("not quarantined", x.ofPart(3, 6), 0);
        x.flaw(3, 3);
        check.due("3", x.look(3, true), 3);
        check.due("quarantined", x.ofPart(3, 6), 1);
        x.flaw(3, 2);
        check.due("2 in quarantine", x.look(3, true), 0);
        check.due("that ends no quarantine", x.ofPart(3, 6), 1);
        for (int part = 0; part <= 2; part++) {
            check.due("a part without a flaw", x.look(part, true), 0);
        }
    }

    private static void lookThrows() {
        WheelWorks x = Build.oneOfEach();
        check.throwing("no such part", Check.INDEX, () -> x.look(5, false));
        check.throwing("part -1", Check.INDEX, () -> x.look(-1, true));
        x.fit(4, 2);
        check.throwing("by magnets in a host", Check.STATE, () -> x.look(4, true));
        check.due("by sound in a host", x.look(4, false), 0);
        x.scrap(3);
        check.throwing("scrapped, by sound", Check.STATE, () -> x.look(3, false));
        check.throwing("scrapped, by magnets", Check.STATE, () -> x.look(3, true));
        x.fit(1, 0);
        x.comes(0, 0);
        check.due("a train that waits, by magnets", x.look(0, true), 0);
        x.night();
        check.throwing("on a road, by sound", Check.STATE, () -> x.look(0, false));
        check.throwing("on a road, by magnets", Check.STATE, () -> x.look(0, true));
        check.throwing("in a train on a road", Check.STATE, () -> x.look(1, false));
        x.out();
        check.due("when it is out", x.look(1, false), 0);
    }

    private static void lookEndsARelease() {
        WheelWorks x = Build.fullTrain();
        x.flaw(18, 9);
        x.release(0);
        x.look(18, false);
        check.due("nothing found, released", x.isReleased(0), true);
        x.flaw(18, 10);
        check.due("a flaw ends no release", x.isReleased(0), true);
        x.look(18, false);
        check.due("found, not released", x.isReleased(0), false);
        check.throwing("nor does it run", Check.STATE, () -> x.run(0, 1, 0));
        x.clear(18);
        check.due("nor is it when that is cleared", x.isReleased(0), false);
        check.due("but anew", x.release(0), 0);
    }

    private static void clear() {
        WheelWorks x = Build.oneOfEach();
        x.flaw(4, 30);
        x.look(4, true);
        check.due("clear", x.clear(4), 30);
        check.due("quarantined", x.ofPart(4, 6), 0);
        check.due("its flaw is gone", x.look(4, true), 0);
        x.flaw(4, 30);
        x.look(4, true);
        x.scrap(4);
        check.due("a scrapped part is cleared", x.clear(4), 30);
        check.due("without its flaw", x.flaw(4, 1), 0);
    }

    private static void clearThrows() {
        WheelWorks x = Build.oneOfEach();
        check.throwing("no such part", Check.INDEX, () -> x.clear(5));
        check.throwing("part -1", Check.INDEX, () -> x.clear(-1));
        x.flaw(4, 30);
        check.throwing("not quarantined", Check.STATE, () -> x.clear(4));
        check.due("the flaw stays", x.flaw(4, 31), 30);
        x.fit(4, 2);
        x.fit(2, 1);
        x.fit(1, 0);
        x.look(4, false);
        x.comes(0, 0);
        x.night();
        check.throwing("on a road", Check.STATE, () -> x.clear(4));
        check.due("quarantined", x.ofPart(4, 6), 1);
        x.out();
        check.due("when it is out", x.clear(4), 31);
    }

    private static void recall() {
        WheelWorks x = Build.fullTrain();
        x.release(0);
        check.due("a melt of none", x.recall(9), 0);
        check.due("released", x.isReleased(0), true);
        check.due("motors", x.recall(4), 4);
        check.due("not released", x.isReleased(0), false);
        check.due("recalled", x.ofPart(5, 7), 1);
        check.due("not recalled", x.ofPart(4, 7), 0);
        check.due("again", x.recall(4), 0);
        check.due("barred", x.release(0), 3);
        check.due("by", x.barredBy(0), 5);
        x.take(9);
        int anew = x.part(WheelWorks.MOTOR, 4, 0);
        check.due("a new part of the melt is not recalled", x.ofPart(anew, 7), 0);
        x.scrap(9);
        check.due("what is scrapped stays recalled", x.ofPart(9, 7), 1);
        int scrapped = x.part(WheelWorks.MOTOR, 4, 0);
        x.scrap(scrapped);
        check.due("the new one alone", x.recall(4), 1);
        check.due("what was scrapped is not", x.ofPart(scrapped, 7), 0);
        x.comes(0, 0);
        x.night();
        check.due("a train on a road, by its melt", x.recall(0), 1);
        check.due("recalled", x.ofPart(0, 7), 1);
    }

    private static void recallEndsAtMagnets() {
        WheelWorks x = Build.oneOfEach();
        x.flaw(3, 3);
        x.recall(0);
        check.due("found", x.look(3, true), 3);
        check.due("recalled still", x.ofPart(3, 7), 1);
        x.clear(3);
        check.due("cleared, recalled still", x.ofPart(3, 7), 1);
        check.due("not found", x.look(3, true), 0);
        check.due("recalled no more", x.ofPart(3, 7), 0);
        check.due("the others are", x.ofPart(4, 7), 1);
        check.due("that one again", x.recall(0), 1);
    }

    private static void recallThrows() {
        WheelWorks x = Build.oneOfEach();
        check.throwing("melt -1", Check.ARGUMENT, () -> x.recall(-1));
        check.throwing("melt 10", Check.ARGUMENT, () -> x.recall(10));
        check.due("none is recalled", x.recall(0), 5);
    }
}
