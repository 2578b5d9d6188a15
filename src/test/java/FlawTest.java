/** Promises 12 to 15: flaws, how they grow and break, how they are found, quarantine, and recalls. */
public final class FlawTest {
    private static final Check check = new Check();

    public static void main(String[] args) {
        check.runAll(FlawTest.class);
    }

    /** One of each kind, with a flaw of that size in the wheelset 3 and the motor 4. */
    private static WheelWorks flawed(int size) {
        WheelWorks x = Build.oneOfEach();
        x.flaw(3, size);
        x.flaw(4, size);
        return x;
    }

    /** The flaw of wheelset 3 of a full train, of this size at first, behind a run. */
    private static int grown(int size, int kilometres) {
        WheelWorks x = Build.fullTrain();
        x.flaw(3, size);
        Build.ride(x, 0, kilometres, 0);
        return x.flaw(3, 1);
    }

    /** Each part of a thin train on a road, 0 to 3, with a flaw of 20 in wheelset 3; motor 4 is in the store. */
    private static WheelWorks flawedOnRoad() {
        return Check.behind(() -> flawed(20), Build::parkOneOfEach);
    }

    // ---- promise 12: flaw

    @Says(promise = 12, value = "size: 1 to 99")
    static void sizesOfFlaws() {
        check.range("size of a wheelset's", 1, 99, () -> flawed(20), (x, size) -> x.flaw(3, size));
        check.range("size of a motor's", 1, 99, Build::oneOfEach, (x, size) -> x.flaw(4, size));
        check.due("the least", flawed(1).flaw(3, 2), 1);
        check.due("the greatest", flawed(99).flaw(4, 2), 99);
    }

    @Says(promise = 12, value = "Lets a wheelset or a motor have a flaw, in place of one that it has.")
    static void aFlawInPlaceOfAnother() {
        WheelWorks x = flawed(99);
        x.flaw(3, 1);
        check.due("the lesser one is there", x.flaw(3, 7), 1);
        check.due("the motor has its own", x.flaw(4, 7), 99);
        check.due("none is quarantined by that", x.ofPart(3, 6), 0);
    }

    @Says(promise = 12, value = "Returns the size of the flaw before; 0 without.")
    static void theFlawBefore() {
        WheelWorks x = Build.oneOfEach();
        check.due("without, a wheelset", x.flaw(3, 50), 0);
        check.due("before", x.flaw(3, 60), 50);
        check.due("without, a motor", x.flaw(4, 1), 0);
        WheelWorks y = Build.broken();
        check.due("above 99, of one that broke", y.flaw(3, 2), 109);
        check.due("it stays in quarantine", y.ofPart(3, 6), 1);
    }

    @Says(promise = 12, value = "Lets a wheelset or a motor have a flaw")
    static void boundAndScrappedOnesToo() {
        WheelWorks x = flawedOnRoad();
        check.due("bound", x.flaw(3, 30), 20);
        x.scrap(4);
        check.due("scrapped", x.flaw(4, 30), 20);
        check.due("scrapped, again", x.flaw(4, 31), 30);
    }

    @Says(promise = 12, value = "Throws IndexOutOfBoundsException if there is no such part")
    static void noSuchPartHasAFlaw() {
        check.noSuchPart(() -> flawed(20), (x, part) -> x.flaw(part, 1));
        check.noSuchPart(WheelWorks::new, (x, part) -> x.flaw(part, 1));
        check.refused("size out of range too", Check.INDEX, () -> flawed(20), x -> x.flaw(5, 0));
        check.refused("size out of range too", Check.INDEX, () -> flawed(20), x -> x.flaw(-1, 100));
    }

    @Says(promise = 12, value = "it is of another kind, or size is out of range")
    static void otherKindsHaveNoFlaw() {
        check.otherKinds("34", (x, part) -> x.flaw(part, 1));
        check.refused("and size 0", Check.ARGUMENT, Build::oneOfEach, x -> x.flaw(2, 0));
        check.refused("a wheelset, size 100", Check.ARGUMENT, () -> flawed(20), x -> x.flaw(3, 100));
    }

    @Says(promise = 12, value = "it is of another kind, or size is out of range")
    static void aFlawThatIsRefusedDoesNotBeginAnew() {
        WheelWorks x = Build.fullTrain();
        x.flaw(3, 20);
        Build.ride(x, 0, 499, 0);
        check.throwing("size 100", Check.ARGUMENT, () -> x.flaw(3, 100));
        Build.ride(x, 0, 1, 0);
        check.due("grown behind 500", x.flaw(3, 1), 23);
    }

    // ---- flaws grow

    @Says(promise = Says.TERMS, value = "It grows, for each 500 full kilometres of its life since it was told")
    static void itGrowsForEach500FullKilometres() {
        check.due("behind 1", grown(20, 1), 20);
        check.due("behind 499", grown(20, 499), 20);
        check.due("behind 500", grown(20, 500), 23);
        check.due("behind 999", grown(20, 999), 23);
        check.due("behind 1000", grown(20, 1000), 26);
        check.due("behind 1499", grown(20, 1499), 26);
        check.due("behind 1500", grown(20, 1500), 29);
        check.due("behind 2000", grown(20, 2000), 32);
    }

    @Says(promise = Says.TERMS, value = "by 1 and a tenth of its size, rounded down, together")
    static void itGrowsBy1AndATenth() {
        int[][] due = {{1, 2}, {8, 9}, {9, 10}, {10, 12}, {19, 21}, {20, 23}, {29, 32}, {30, 34}, {79, 87}, {80, 89},
            {88, 97}, {89, 98}, {90, 100}, {91, 101}, {98, 108}, {99, 109}};
        for (int[] one : due) {
            check.due("of " + one[0], grown(one[0], 500), one[1]);
        }
    }

    @Says(promise = Says.TERMS, value = "one after the other")
    static void itGrowsByWhatItHasGrownTo() {
        check.due("9, 10, 12, 14, 16", grown(9, 2000), 16);
        check.due("1, 2, 3, 4, 5", grown(1, 2000), 5);
        check.due("60, 67, 74, 82", grown(60, 1500), 82);
        check.due("99, 109, 120, 133, 147", grown(99, 2000), 147);
    }

    @Says(promise = Says.TERMS, value = "It grows, for each 500 full kilometres of its life since it was told")
    static void whatIsLeftOver500CountsOn() {
        int[] due = {20, 23, 26, 29, 32, 36};
        for (int times = 0; times < due.length; times++) {
            WheelWorks x = Build.fullTrain();
            x.flaw(3, 20);
            for (int i = 0; i < times; i++) {
                Build.ride(x, 0, 499, 0);
                Build.ride(x, 0, 1, 0);
            }
            check.due("499 and 1, " + times + " times", x.flaw(3, 1), due[times]);
        }
        WheelWorks x = Build.fullTrain();
        x.flaw(3, 20);
        Build.ride(x, 0, 750, 0);
        Build.ride(x, 0, 749, 0);
        check.due("750 and 749", x.flaw(3, 1), 26);
    }

    @Says(promise = Says.TERMS, value = "It grows, for each 500 full kilometres of its life since it was told")
    static void sinceItWasTold() {
        WheelWorks x = Build.fullTrain();
        Build.ride(x, 0, 300, 0);
        x.flaw(3, 20);
        Build.ride(x, 0, 499, 0);
        check.due("not by all its life, told anew", x.flaw(3, 20), 20);
        Build.ride(x, 0, 1, 0);
        check.due("it begins anew", x.flaw(3, 21), 20);
        Build.ride(x, 0, 499, 0);
        check.due("and again", x.look(3, false), 21);
        x.clear(3);
        x.flaw(3, 30);
        Build.ride(x, 0, 500, 0);
        check.due("told behind it was cleared", x.flaw(3, 1), 34);
    }

    @Says(promise = Says.TERMS, value = "It grows, for each 500 full kilometres of its life since it was told")
    static void itDoesNotGrowInTheStore() {
        WheelWorks x = Build.fullTrain();
        x.flaw(5, 40);
        Build.ride(x, 0, 499, 0);
        x.take(5);
        x.fit(x.part(WheelWorks.MOTOR, 0, 0), 2);
        Build.ride(x, 0, 2000, 0);
        check.due("in the store", x.look(5, true), 40);
        x.clear(5);
        x.flaw(5, 40);
        x.take(19);
        x.fit(5, 2);
        Build.ride(x, 0, 499, 0);
        check.due("of its own life", x.flaw(5, 40), 40);
    }

    @Says(promise = Says.TERMS, value = "A part may have a flaw of a size.")
    static void whatHasNoFlawGetsNone() {
        WheelWorks x = Build.fullTrain();
        Build.ride(x, 0, 2000, 0);
        check.due("a wheelset", x.flaw(3, 1), 0);
        check.due("a motor", x.flaw(5, 1), 0);
    }

    @Says(promise = Says.TERMS, value = "If a part of the tree has a flaw of 100 or more behind a run, it breaks")
    static void itBreaksFrom100() {
        check.due("90 and 10", runWith(90, 500), 3);
        check.due("89 and 9", runWith(89, 999), WheelWorks.NONE);
        check.due("99 that has not grown", runWith(99, 499), WheelWorks.NONE);
        check.due("99 that has", runWith(99, 500), 3);
        check.due("74, 82, 91, 101 behind 1500", runWith(74, 1500), 3);
        check.due("74, 82, 91 behind 1499", runWith(74, 1499), WheelWorks.NONE);
        check.due("109 behind the break", grown(99, 500), 109);
    }

    private static int runWith(int size, int kilometres) {
        WheelWorks x = Build.fullTrain();
        x.flaw(3, size);
        return Build.ride(x, 0, kilometres, 0);
    }

    @Says(promise = Says.TERMS, value = "all parts of the tree are quarantined")
    static void aBreakQuarantinesTheTree() {
        WheelWorks x = Build.fullTrain();
        int other = Build.train(x, 0);
        x.take(18);
        x.fit(x.part(WheelWorks.MOTOR, 0, 0), 15);
        x.flaw(16, 90);
        check.due("it breaks", Build.ride(x, 0, 500, 0), 16);
        for (int part = 0; part < other; part++) {
            check.due("part " + part, x.ofPart(part, 6), part == 18 ? 0 : 1);
            check.due("life of " + part, x.ofPart(part, 3), part == 18 ? 0 : 500);
        }
        for (int part = other; part < other + Build.PARTS_OF_TRAIN; part++) {
            check.due("of another train, part " + part, x.ofPart(part, 6), 0);
        }
        check.due("the motor that was fitted", x.ofPart(other + 19, 6), 1);
        check.due("flaw", x.clear(16), 100);
        check.due("without a flaw", x.clear(15), 0);
    }

    @Says(promise = Says.TERMS, value = "all parts of the tree are quarantined")
    static void noBreakNoQuarantine() {
        WheelWorks x = Build.fullTrain();
        x.flaw(16, 89);
        Build.ride(x, 0, 999, 0);
        for (int part = 0; part < Build.PARTS_OF_TRAIN; part++) {
            check.due("part " + part, x.ofPart(part, 6), 0);
        }
        check.due("it runs on", x.release(0), 0);
        check.due("98, and 10", x.run(0, 1, 0), 16);
    }

    // ---- promise 13: look

    @Says(promise = Says.TERMS, value = "Sound finds flaws of 10 or more")
    static void soundFindsFrom10() {
        for (int part = 3; part <= 4; part++) {
            WheelWorks x = flawed(9);
            check.due("9", x.look(part, false), 0);
            check.due("quarantined by that", x.ofPart(part, 6), 0);
            WheelWorks y = flawed(10);
            check.due("10", y.look(part, false), 10);
            check.due("quarantined by that", y.ofPart(part, 6), 1);
            check.due("99", flawed(99).look(part, false), 99);
        }
        check.due("109", Build.broken().look(3, false), 109);
    }

    @Says(promise = Says.TERMS, value = "magnets, in the store alone, of 3 or more")
    static void magnetsFindFrom3() {
        for (int part = 3; part <= 4; part++) {
            WheelWorks x = flawed(2);
            check.due("2", x.look(part, true), 0);
            check.due("quarantined by that", x.ofPart(part, 6), 0);
            WheelWorks y = flawed(3);
            check.due("3", y.look(part, true), 3);
            check.due("quarantined by that", y.ofPart(part, 6), 1);
            check.due("99", flawed(99).look(part, true), 99);
        }
        WheelWorks z = Build.broken();
        z.take(3);
        check.due("109", z.look(3, true), 109);
    }

    @Says(promise = 13, value = "byMagnet: whether by magnets; otherwise by sound")
    static void bySoundOrByMagnets() {
        for (int size = 3; size <= 9; size++) {
            check.due("by sound", flawed(size).look(3, false), 0);
            check.due("by magnets", flawed(size).look(3, true), size);
        }
    }

    @Says(promise = 13, value = "Returns the size that is found; 0 if nothing is.")
    static void nothingIsFoundWithoutAFlaw() {
        for (int part = 0; part <= 4; part++) {
            check.due("by sound", Build.oneOfEach().look(part, false), 0);
            check.due("by magnets", Build.oneOfEach().look(part, true), 0);
        }
        WheelWorks x = flawed(20);
        check.due("the bogie beside it", x.look(2, false), 0);
        check.due("found", x.look(3, false), 20);
        check.due("found again", x.look(3, true), 20);
    }

    @Says(promise = Says.TERMS, value = "the part is quarantined by that")
    static void thePartAloneIsQuarantined() {
        WheelWorks x = Build.fullTrain();
        x.flaw(17, 10);
        x.look(17, false);
        for (int part = 0; part < Build.PARTS_OF_TRAIN; part++) {
            check.due("part " + part, x.ofPart(part, 6), part == 17 ? 1 : 0);
        }
        x.flaw(17, 2);
        check.due("nothing found later, by sound", x.look(17, false), 0);
        check.due("that ends no quarantine", x.ofPart(17, 6), 1);
        x.take(17);
        check.due("nothing found later, by magnets", x.look(17, true), 0);
        check.due("that ends no quarantine", x.ofPart(17, 6), 1);
    }

    @Says(promise = Says.TERMS, value = "Magnets that find nothing end the recall of a part")
    static void magnetsEndARecall() {
        for (int part = 0; part <= 4; part++) {
            WheelWorks x = flawed(2);
            x.recall(0);
            check.due("nothing found", x.look(part, true), 0);
            for (int other = 0; other <= 4; other++) {
                check.due("recalled, part " + other, x.ofPart(other, 7), other == part ? 0 : 1);
            }
            check.due("that one again", x.recall(0), 1);
        }
    }

    @Says(promise = Says.TERMS, value = "Magnets that find nothing end the recall of a part")
    static void whatIsFoundAndSoundEndNoRecall() {
        WheelWorks x = flawed(3);
        x.recall(0);
        check.due("found by magnets", x.look(3, true), 3);
        check.due("recalled still", x.ofPart(3, 7), 1);
        x.clear(3);
        check.due("cleared, recalled still", x.ofPart(3, 7), 1);
        check.due("not found by sound", x.look(4, false), 0);
        check.due("recalled still", x.ofPart(4, 7), 1);
        check.due("not found by magnets", x.look(3, true), 0);
        check.due("recalled no more", x.ofPart(3, 7), 0);
    }

    @Says(promise = 13, value = "Throws IndexOutOfBoundsException if there is no such part")
    static void noSuchPartIsLookedAt() {
        check.noSuchPart(() -> flawed(20), (x, part) -> x.look(part, true));
        check.noSuchPart(() -> flawed(20), (x, part) -> x.look(part, false));
        check.noSuchPart(WheelWorks::new, (x, part) -> x.look(part, true));
    }

    @Says(promise = 13, value = "it is scrapped")
    static void scrapIsNotLookedAt() {
        for (int part = 0; part <= 4; part++) {
            int scrap = part;
            check.refused("by sound", Check.STATE, () -> flawed(20), x -> x.scrap(scrap), x -> x.look(scrap, false));
            check.refused("by magnets", Check.STATE, () -> flawed(20), x -> x.scrap(scrap), x -> x.look(scrap, true));
        }
        check.refused("without a flaw, recalled", Check.STATE, FlawTest::recalledScrap, x -> x.look(4, true));
    }

    private static WheelWorks recalledScrap() {
        WheelWorks x = Build.oneOfEach();
        x.recall(0);
        x.scrap(4);
        return x;
    }

    @Says(promise = 13, value = "or bound")
    static void whatIsBoundIsNotLookedAt() {
        for (int part = 0; part <= 3; part++) {
            int bound = part;
            check.refused("by sound", Check.STATE, FlawTest::flawedOnRoad, x -> x.look(bound, false));
            check.refused("by magnets", Check.STATE, FlawTest::flawedOnRoad, x -> x.look(bound, true));
        }
        WheelWorks x = flawedOnRoad();
        check.due("not in that train", x.look(4, true), 20);
        x.out();
        check.due("the train is out, by magnets", x.look(0, true), 0);
        check.due("it is out, by sound", x.look(3, false), 20);
        WheelWorks y = flawed(20);
        y.comes(0, 0);
        check.due("a train that waits, by magnets", y.look(0, true), 0);
        check.due("by sound", y.look(0, false), 0);
    }

    @Says(promise = 13, value = "by magnets, not in the store")
    static void magnetsInTheStoreAlone() {
        check.refused("in a bogie", Check.STATE, () -> flawed(20), x -> x.fit(4, 2), x -> x.look(4, true));
        check.refused("in a train", Check.STATE, Build::fullTrain, x -> x.look(1, true));
        check.refused("deep in a train, without a flaw", Check.STATE, Build::fullTrain, x -> x.look(18, true));
        check.refused("recalled", Check.STATE, Build::fullTrain, x -> x.recall(4), x -> x.look(18, true));
        WheelWorks x = flawed(20);
        x.fit(4, 2);
        check.due("in a bogie, by sound", x.look(4, false), 20);
        x.take(4);
        check.due("in the store again", x.look(4, true), 20);
    }

    // ---- promise 14: clear

    @Says(promise = Says.TERMS, value = "Quarantine of a part ends as it is cleared, by which its flaw is gone.")
    static void whatClearingChanges() {
        WheelWorks x = Build.quarantined();
        x.recall(0);
        x.clear(3);
        check.due("quarantined", x.ofPart(3, 6), 0);
        check.due("recalled still", x.ofPart(3, 7), 1);
        check.due("the motor is still", x.ofPart(4, 6), 1);
        check.due("its flaw is gone", x.look(3, true), 0);
        check.due("the motor's is not", x.flaw(4, 5), 20);
        check.due("nor is that in its place", x.clear(4), 5);
    }

    @Says(promise = 14, value = "Returns the size of the flaw that it had; 0 without.")
    static void theFlawThatItHad() {
        check.due("20", Build.quarantined().clear(4), 20);
        WheelWorks x = Build.broken();
        check.due("the broken one", x.clear(3), 109);
        check.due("without, a train", x.clear(0), 0);
        check.due("without, a wheelset", x.clear(4), 0);
        check.due("without, the last part", x.clear(18), 0);
    }

    @Says(promise = 14, value = "Throws IndexOutOfBoundsException if there is no such part")
    static void noSuchPartIsCleared() {
        check.noSuchPart(Build::quarantined, WheelWorks::clear);
        check.noSuchPart(WheelWorks::new, WheelWorks::clear);
    }

    @Says(promise = 14, value = "it is not quarantined")
    static void whatIsNotQuarantinedIsNotCleared() {
        for (int part = 0; part <= 4; part++) {
            int cleared = part;
            check.refused("part " + part, Check.STATE, () -> flawed(20), x -> x.clear(cleared));
        }
        check.refused("its flaw was not found", Check.STATE, () -> flawed(2), x -> x.look(4, true), x -> x.clear(4));
        check.refused("cleared before", Check.STATE, Build::quarantined, x -> x.clear(4), x -> x.clear(4));
        check.refused("recalled alone", Check.STATE, Build::oneOfEach, x -> x.recall(0), x -> x.clear(4));
    }

    @Says(promise = 14, value = "or bound")
    static void whatIsBoundIsNotCleared() {
        for (int part : new int[] {0, 1, 2, 3, 18}) {
            check.refused("part " + part, Check.STATE, Build::broken, Build::park, x -> x.clear(part));
        }
        WheelWorks x = Build.broken();
        x.comes(0, 0);
        check.due("it waits", x.clear(0), 0);
        x.night();
        x.out();
        check.due("it is out", x.clear(3), 109);
    }

    @Says(promise = 14, value = "Clears a part that is quarantined.")
    static void inTheStoreInAHostAndScrapped() {
        WheelWorks x = Build.quarantined();
        x.scrap(4);
        check.due("scrapped", x.clear(4), 20);
        check.due("its flaw is gone", x.flaw(4, 1), 0);
        check.due("in the store", x.clear(3), 20);
        check.due("in a host", Build.broken().clear(17), 0);
    }

    // ---- promise 15: recall

    @Says(promise = 15, value = "melt: 0 to 9")
    static void meltsRecalled() {
        check.range("melt", 0, 9, Build::fullTrain, WheelWorks::recall);
        WheelWorks x = new WheelWorks();
        for (int melt = 0; melt <= 9; melt++) {
            x.part(WheelWorks.COACH, melt, 0);
        }
        for (int melt = 0; melt <= 9; melt++) {
            check.due("recall", x.recall(melt), 1);
            for (int part = 0; part <= 9; part++) {
                check.due("recalled, part " + part, x.ofPart(part, 7), part <= melt ? 1 : 0);
            }
        }
    }

    @Says(promise = 15, value = "Returns how many parts are recalled by that which were not.")
    static void partsThatWereNotRecalled() {
        WheelWorks x = Build.fullTrain();
        check.due("none of that melt", x.recall(9), 0);
        check.due("motors", x.recall(4), 4);
        check.due("again", x.recall(4), 0);
        x.part(WheelWorks.MOTOR, 4, 0);
        check.due("a new one is not recalled", x.ofPart(19, 7), 0);
        check.due("it alone", x.recall(4), 1);
        check.due("the train", x.recall(0), 1);
        check.due("all 60", Build.sixty().recall(7), 60);
    }

    @Says(promise = Says.TERMS, value = "to recall a melt is for all its parts that are not scrapped")
    static void scrapIsNotRecalled() {
        for (int part = 0; part <= 4; part++) {
            WheelWorks x = Build.oneOfEach();
            x.scrap(part);
            check.due("the other four", x.recall(0), 4);
            check.due("the scrapped one", x.ofPart(part, 7), 0);
        }
        WheelWorks x = Build.oneOfEach();
        x.recall(0);
        x.scrap(4);
        check.due("recalled before it was scrapped", x.ofPart(4, 7), 1);
        check.due("none any more", x.recall(0), 0);
    }

    @Says(promise = Says.TERMS, value = "to recall a melt is for all its parts that are not scrapped")
    static void inTheStoreInAHostAndOnARoad() {
        WheelWorks x = Build.onRoad();
        int store = x.part(WheelWorks.MOTOR, WheelWorks.MOTOR, 0);
        check.due("motors", x.recall(WheelWorks.MOTOR), 5);
        check.due("in the store", x.ofPart(store, 7), 1);
        check.due("on a road", x.ofPart(18, 7), 1);
        WheelWorks y = Build.quarantined();
        check.due("quarantined ones too", y.recall(0), 5);
    }

    @Says(promise = 15, value = "Throws IllegalArgumentException if melt is out of range")
    static void noSuchMelt() {
        check.refused("10", Check.ARGUMENT, Build::oneOfEach, x -> x.recall(10));
        check.refused("-1", Check.ARGUMENT, Build::oneOfEach, x -> x.recall(-1));
        check.refused("of no parts", Check.ARGUMENT, WheelWorks::new, x -> x.recall(10));
    }
}
