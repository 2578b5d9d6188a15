/** Promises 4 to 6, 20, 21 and 23: what is fitted, taken and scrapped, and where parts are and were. */
public final class TreeTest {
    private static final Check check = new Check();

    public static void main(String[] args) {
        check.runAll(TreeTest.class);
    }

    private static int placesDue(int host, int kind) {
        if (host == WheelWorks.BOGIE && kind == WheelWorks.MOTOR) {
            return 1;
        }
        return host <= WheelWorks.BOGIE && kind == host + 1 ? 2 : 0;
    }

    /** A host 0, and three parts of a kind. */
    private static WheelWorks hostAndThree(int host, int kind) {
        WheelWorks x = new WheelWorks();
        x.part(host, 0, 0);
        for (int i = 1; i <= 3; i++) {
            x.part(kind, 0, 0);
        }
        return x;
    }

    /** A train 0 with a coach 1 with a bogie 2 with a wheelset 3 and a motor 4, and one of each as 5 to 9. */
    private static WheelWorks thinTrain() {
        WheelWorks x = Build.oneOfEach();
        x.fit(1, 0);
        x.fit(2, 1);
        x.fit(3, 2);
        x.fit(4, 2);
        for (int kind = WheelWorks.TRAIN; kind <= WheelWorks.MOTOR; kind++) {
            x.part(kind, 0, 0);
        }
        return x;
    }

    private static WheelWorks thinTrainWaiting() {
        WheelWorks x = thinTrain();
        x.comes(0, 50);
        return x;
    }

    private static WheelWorks thinTrainOnRoad() {
        WheelWorks x = thinTrainWaiting();
        x.night();
        return x;
    }

    private static WheelWorks thinTrainOut() {
        WheelWorks x = thinTrainOnRoad();
        x.out();
        return x;
    }

    // ---- promise 4: fit

    @Says(promise = Says.TERMS, value = "A TRAIN has places for 2 coaches, a COACH for 2 bogies, a BOGIE for 2"
        + " wheelsets and a motor.")
    static void placesOfEachKind() {
        for (int host = WheelWorks.TRAIN; host <= WheelWorks.MOTOR; host++) {
            for (int kind = WheelWorks.TRAIN; kind <= WheelWorks.MOTOR; kind++) {
                int places = placesDue(host, kind);
                WheelWorks x = hostAndThree(host, kind);
                for (int i = 1; i <= places; i++) {
                    check.due("part " + i + " of kind " + kind + " into kind " + host, x.fit(i, 0), i);
                    check.due("its host", x.host(i), 0);
                }
            }
        }
    }

    @Says(promise = 4, value = "Throws IllegalArgumentException if such a host has no place for such a part")
    static void noPlaceForOtherKinds() {
        int refused = 0;
        for (int host = WheelWorks.TRAIN; host <= WheelWorks.MOTOR; host++) {
            for (int kind = WheelWorks.TRAIN; kind <= WheelWorks.MOTOR; kind++) {
                if (placesDue(host, kind) == 0) {
                    WheelWorks x = hostAndThree(host, kind);
                    check.throwing("kind " + kind + " into kind " + host, Check.ARGUMENT, () -> x.fit(1, 0));
                    check.due("it stays in the store", x.host(1), WheelWorks.NONE);
                    refused++;
                }
            }
        }
        check.due("of 25 pairs", refused, 21);
        check.refused("into itself", Check.ARGUMENT, Build::oneOfEach, x -> x.fit(2, 2));
        check.refused("a host into its part", Check.ARGUMENT, Build::oneOfEach, x -> x.fit(1, 2));
        check.refused("over a bogie's head", Check.ARGUMENT, Build::oneOfEach, x -> x.fit(3, 1));
    }

    @Says(promise = 4, value = "has no such place that is empty")
    static void noPlaceIsEmpty() {
        check.refused("a third coach", Check.STATE, () -> hostAndThree(0, 1), TreeTest::fitTwo, x -> x.fit(3, 0));
        check.refused("a third bogie", Check.STATE, () -> hostAndThree(1, 2), TreeTest::fitTwo, x -> x.fit(3, 0));
        check.refused("a third wheelset", Check.STATE, () -> hostAndThree(2, 3), TreeTest::fitTwo, x -> x.fit(3, 0));
        check.refused("a second motor", Check.STATE, () -> hostAndThree(2, 4), x -> x.fit(1, 0), x -> x.fit(2, 0));
    }

    private static void fitTwo(WheelWorks x) {
        x.fit(1, 0);
        x.fit(2, 0);
    }

    @Says(promise = 4, value = "has no such place that is empty")
    static void aPlaceOfAnotherKindIsNoSuchPlace() {
        WheelWorks x = new WheelWorks();
        x.part(WheelWorks.BOGIE, 0, 0);
        for (int kind : new int[] {4, 3, 4, 3, 3}) {
            x.part(kind, 0, 0);
        }
        check.due("a motor", x.fit(1, 0), 1);
        check.due("a wheelset beside it", x.fit(2, 0), 2);
        check.throwing("a second motor, one wheelset short", Check.STATE, () -> x.fit(3, 0));
        check.due("a second wheelset", x.fit(4, 0), 3);
        check.throwing("a third wheelset", Check.STATE, () -> x.fit(5, 0));
        x.take(1);
        check.throwing("a third wheelset, the motor short", Check.STATE, () -> x.fit(5, 0));
        check.due("the second motor for the first", x.fit(3, 0), 3);
    }

    @Says(promise = 4, value = "has no such place that is empty")
    static void aPlaceIsEmptyAgainAsItsPartIsTaken() {
        WheelWorks x = hostAndThree(0, 1);
        fitTwo(x);
        x.take(1);
        check.due("the third coach", x.fit(3, 0), 2);
        check.throwing("and the first one", Check.STATE, () -> x.fit(1, 0));
    }

    @Says(promise = Says.TERMS, value = "A part fits a host if their mods are apart by 1 at most.")
    static void modsApartBy1AtMost() {
        for (int hostMod = 0; hostMod <= 3; hostMod++) {
            for (int mod = 0; mod <= 3; mod++) {
                WheelWorks x = new WheelWorks();
                x.part(WheelWorks.COACH, 0, hostMod);
                x.part(WheelWorks.BOGIE, 0, mod);
                if (Math.abs(mod - hostMod) <= 1) {
                    check.due("mod " + mod + " into " + hostMod, x.fit(1, 0), 1);
                } else {
                    check.throwing("mod " + mod + " into " + hostMod, Check.STATE, () -> x.fit(1, 0));
                }
            }
        }
    }

    @Says(promise = Says.TERMS, value = "A part fits a host if their mods are apart by 1 at most.")
    static void theModsOfPartAndHostAlone() {
        WheelWorks x = new WheelWorks();
        for (int kind = WheelWorks.TRAIN; kind <= WheelWorks.WHEELSET; kind++) {
            x.part(kind, 0, kind);
        }
        check.due("coach 1 into train 0", x.fit(1, 0), 1);
        check.due("bogie 2 into that", x.fit(2, 1), 1);
        check.due("wheelset 3 into that", x.fit(3, 2), 1);
        x.part(WheelWorks.WHEELSET, 0, 0);
        check.throwing("wheelset 0, as the train, into bogie 2", Check.STATE, () -> x.fit(4, 2));
        x.take(2);
        check.due("bogie 2, with a wheelset 3 in it, into coach 1", x.fit(2, 1), 1);
    }

    @Says(promise = 4, value = "or it does not fit")
    static void modsApartBy2AreRefused() {
        check.refused("0 into 2", Check.STATE, TreeTest::bogiesOfAllMods, x -> x.fit(0, 6));
        check.refused("2 into 0", Check.STATE, TreeTest::bogiesOfAllMods, x -> x.fit(2, 4));
        check.refused("3 into 0", Check.STATE, TreeTest::bogiesOfAllMods, x -> x.fit(3, 4));
        WheelWorks x = bogiesOfAllMods();
        check.due("0 into 1", x.fit(0, 5), 1);
        check.due("2 beside it, for the host alone counts", x.fit(2, 5), 2);
    }

    /** Bogies 0 to 3 and coaches 4 to 7 of the mods 0 to 3. */
    private static WheelWorks bogiesOfAllMods() {
        WheelWorks x = new WheelWorks();
        for (int i = 0; i < 8; i++) {
            x.part(i < 4 ? WheelWorks.BOGIE : WheelWorks.COACH, 0, i % 4);
        }
        return x;
    }

    @Says(promise = 4, value = "Returns how many parts are in the host then.")
    static void partsInTheHostAreCounted() {
        WheelWorks x = Build.oneOfEach();
        check.due("a wheelset", x.fit(3, 2), 1);
        check.due("a motor", x.fit(4, 2), 2);
        check.due("what is in the bogie does not count", x.fit(2, 1), 1);
        check.due("nor what is in the coach", x.fit(1, 0), 1);
        check.due("a second wheelset, into a bogie that is in a coach", x.fit(x.part(3, 0, 0), 2), 3);
    }

    @Says(promise = 4, value = "Throws IndexOutOfBoundsException if there is no such part, of both")
    static void neitherPartNorHost() {
        check.noSuchPart(TreeTest::thinTrain, (x, part) -> x.fit(part, 5));
        check.noSuchPart(TreeTest::thinTrain, (x, host) -> x.fit(6, host));
        check.noSuchPart(TreeTest::thinTrain, (x, number) -> x.fit(number, number));
        check.noSuchPart(WheelWorks::new, (x, number) -> x.fit(number, 0));
    }

    @Says(promise = 4, value = "Throws IndexOutOfBoundsException if there is no such part, of both")
    static void noSuchPartComesBeforeAllElse() {
        check.refused("none into a motor, that has no places", Check.INDEX, TreeTest::thinTrain, x -> x.fit(10, 9));
        check.refused("a train, that fits nowhere, into none", Check.INDEX, TreeTest::thinTrain, x -> x.fit(5, 10));
        check.refused("none into scrap", Check.INDEX, Build::scrapped, x -> x.fit(5, 1));
        check.refused("scrap into none", Check.INDEX, Build::scrapped, x -> x.fit(2, 5));
        check.refused("none into a train on a road", Check.INDEX, TreeTest::thinTrainOnRoad, x -> x.fit(-1, 0));
        check.refused("of a train on a road into none", Check.INDEX, TreeTest::thinTrainOnRoad, x -> x.fit(1, -1));
    }

    @Says(promise = 4, value = "Throws IllegalArgumentException if such a host has no place for such a part")
    static void noPlaceForSuchAPartComesBeforeTheirState() {
        check.refused("in a host", Check.ARGUMENT, TreeTest::thinTrain, x -> x.fit(1, 2));
        check.refused("scrap", Check.ARGUMENT, Build::scrapped, x -> x.fit(4, 0));
        check.refused("quarantined", Check.ARGUMENT, Build::quarantined, x -> x.fit(4, 0));
        check.refused("the host is bound", Check.ARGUMENT, TreeTest::thinTrainOnRoad, x -> x.fit(8, 0));
        check.refused("and the part is", Check.ARGUMENT, TreeTest::thinTrainOnRoad, x -> x.fit(3, 1));
        check.refused("the host is full", Check.ARGUMENT, Build::fullTrain, x -> x.part(2, 0, 0), x -> x.fit(19, 0));
        check.refused("mods apart by 3", Check.ARGUMENT, TreeTest::bogiesOfAllMods, x -> x.fit(7, 0));
    }

    @Says(promise = 4, value = "the part is not in the store")
    static void aPartThatIsNotInTheStoreIsNotFitted() {
        check.refused("into another host", Check.STATE, TreeTest::thinTrain, x -> x.fit(1, 5));
        check.refused("into its own host", Check.STATE, TreeTest::thinTrain, x -> x.fit(1, 0));
        check.refused("into another one, deep in a tree", Check.STATE, TreeTest::thinTrain, x -> x.fit(4, 7));
        check.refused("scrapped", Check.STATE, TreeTest::thinTrain, x -> x.scrap(9), x -> x.fit(9, 7));
        check.refused("of a train on a road", Check.STATE, TreeTest::thinTrainOnRoad, x -> x.fit(1, 5));
    }

    @Says(promise = 4, value = "or quarantined")
    static void aQuarantinedPartIsNotFitted() {
        check.refused("a wheelset", Check.STATE, Build::quarantined, x -> x.fit(3, 2));
        check.refused("a motor", Check.STATE, Build::quarantined, x -> x.fit(4, 2));
        check.refused("a coach", Check.STATE, Build::broken, x -> x.take(1), x -> x.fit(1, 0));
        check.refused("a bogie", Check.STATE, Build::broken, x -> x.take(6), x -> x.fit(6, 1));
        WheelWorks x = Build.quarantined();
        x.clear(4);
        check.due("cleared", x.fit(4, 2), 1);
        x.recall(0);
        x.clear(3);
        check.due("recalled alone", x.fit(3, 2), 2);
    }

    @Says(promise = 4, value = "or quarantined")
    static void thePartAloneMustNotBeQuarantined() {
        WheelWorks x = Build.broken();
        x.take(1);
        x.clear(1);
        check.due("in it all are, and its host", x.fit(1, 0), 2);
        check.due("the bogie in it", x.ofPart(2, 6), 1);
        check.due("the train", x.ofPart(0, 6), 1);
    }

    @Says(promise = 4, value = "the host is scrapped")
    static void nothingIsFittedIntoScrap() {
        for (int host = WheelWorks.TRAIN; host <= WheelWorks.BOGIE; host++) {
            int scrap = host + 5;
            check.refused("into kind " + host, Check.STATE, TreeTest::oneScrappedOneNot, x -> x.fit(scrap - 4, scrap));
        }
    }

    private static WheelWorks oneScrappedOneNot() {
        WheelWorks x = Build.oneOfEach();
        for (int kind = WheelWorks.TRAIN; kind <= WheelWorks.MOTOR; kind++) {
            x.scrap(x.part(kind, 0, 0));
        }
        return x;
    }

    @Says(promise = 4, value = "or bound")
    static void nothingIsFittedIntoATreeThatIsBound() {
        check.refused("into the train", Check.STATE, TreeTest::thinTrainOnRoad, x -> x.fit(6, 0));
        check.refused("into its coach", Check.STATE, TreeTest::thinTrainOnRoad, x -> x.fit(7, 1));
        check.refused("into its bogie", Check.STATE, TreeTest::thinTrainOnRoad, x -> x.fit(8, 2));
        WheelWorks x = thinTrainOnRoad();
        check.due("into another train", x.fit(6, 5), 1);
        check.due("into its coach", x.fit(7, 6), 1);
    }

    @Says(promise = 4, value = "or bound")
    static void aTrainThatWaitsOrIsOutIsNotBound() {
        for (WheelWorks x : new WheelWorks[] {thinTrainWaiting(), thinTrainOut()}) {
            check.due("into the train", x.fit(6, 0), 2);
            check.due("into its coach", x.fit(7, 1), 2);
            check.due("into its bogie", x.fit(8, 2), 3);
        }
    }

    // ---- promise 5: take

    @Says(promise = 5, value = "Takes a part out of its host, to the store; what is in it stays in it.")
    static void whatIsInItStaysInIt() {
        WheelWorks x = Build.fullTrain();
        x.take(1);
        check.due("it is in the store", x.host(1), WheelWorks.NONE);
        check.due("its bogie is in it", x.host(2), 1);
        check.due("the other bogie too", x.host(6), 1);
        check.due("a wheelset is in that", x.host(3), 2);
        check.due("the other coach is in the train", x.host(10), 0);
    }

    @Says(promise = 5, value = "Returns the host.")
    static void takeTellsTheHost() {
        WheelWorks x = Build.fullTrain();
        check.due("a motor", x.take(18), 15);
        check.due("a wheelset", x.take(16), 15);
        check.due("a bogie", x.take(15), 10);
        check.due("a coach, whose host is part 0", x.take(10), 0);
    }

    @Says(promise = 5, value = "Throws IndexOutOfBoundsException if there is no such part")
    static void noSuchPartIsTaken() {
        check.noSuchPart(TreeTest::thinTrain, WheelWorks::take);
        check.noSuchPart(WheelWorks::new, WheelWorks::take);
    }

    @Says(promise = 5, value = "it is in no host")
    static void aPartInNoHostIsNotTaken() {
        for (int kind = WheelWorks.TRAIN; kind <= WheelWorks.MOTOR; kind++) {
            int part = kind;
            check.refused("in the store", Check.STATE, Build::oneOfEach, x -> x.take(part));
            check.refused("scrapped", Check.STATE, Build::scrapped, x -> x.take(part));
        }
        check.refused("a train of coaches", Check.STATE, Build::fullTrain, x -> x.take(0));
        check.refused("taken before", Check.STATE, Build::fullTrain, x -> x.take(18), x -> x.take(18));
    }

    @Says(promise = 5, value = "or bound")
    static void nothingIsTakenFromATreeThatIsBound() {
        for (int part = 0; part <= 4; part++) {
            int taken = part;
            check.refused("part " + part, Check.STATE, TreeTest::thinTrainOnRoad, x -> x.take(taken));
        }
        for (int part = 1; part <= 4; part++) {
            check.due("it waits, part " + part, thinTrainWaiting().take(part), part == 4 ? 2 : part - 1);
            check.due("it is out, part " + part, thinTrainOut().take(part), part == 4 ? 2 : part - 1);
        }
        WheelWorks x = thinTrainOnRoad();
        x.fit(6, 5);
        check.due("from another train", x.take(6), 5);
    }

    // ---- promise 6: scrap

    @Says(promise = 6, value = "Scraps a part.")
    static void partsOfEachKindAreScrapped() {
        for (int kind = WheelWorks.TRAIN; kind <= WheelWorks.MOTOR; kind++) {
            WheelWorks x = Build.oneOfEach();
            x.scrap(kind);
            for (int part = 0; part <= 4; part++) {
                check.due("host", x.host(part), part == kind ? WheelWorks.SCRAPPED : WheelWorks.NONE);
            }
        }
        WheelWorks x = Build.quarantined();
        x.recall(0);
        x.scrap(3);
        check.due("quarantined and recalled", x.host(3), WheelWorks.SCRAPPED);
    }

    @Says(promise = 6, value = "Throws IndexOutOfBoundsException if there is no such part")
    static void noSuchPartIsScrapped() {
        check.noSuchPart(TreeTest::thinTrain, WheelWorks::scrap);
        check.noSuchPart(WheelWorks::new, WheelWorks::scrap);
    }

    @Says(promise = 6, value = "it is not in the store")
    static void aPartThatIsNotInTheStoreIsNotScrapped() {
        check.refused("in a host that is part 0", Check.STATE, Build::oneOfEach, x -> x.fit(1, 0), x -> x.scrap(1));
        check.refused("in a host", Check.STATE, TreeTest::thinTrain, x -> x.scrap(3));
        for (int kind = WheelWorks.TRAIN; kind <= WheelWorks.MOTOR; kind++) {
            int part = kind;
            check.refused("scrapped", Check.STATE, Build::scrapped, x -> x.scrap(part));
        }
    }

    @Says(promise = 6, value = "something is in it")
    static void aPartWithSomethingInItIsNotScrapped() {
        check.refused("a coach in a train", Check.STATE, Build::oneOfEach, x -> x.fit(1, 0), x -> x.scrap(0));
        check.refused("a bogie in a coach", Check.STATE, Build::oneOfEach, x -> x.fit(2, 1), x -> x.scrap(1));
        check.refused("a wheelset in a bogie", Check.STATE, Build::oneOfEach, x -> x.fit(3, 2), x -> x.scrap(2));
        check.refused("a motor in a bogie", Check.STATE, Build::oneOfEach, x -> x.fit(4, 2), x -> x.scrap(2));
        WheelWorks x = Build.oneOfEach();
        x.fit(4, 2);
        x.take(4);
        x.scrap(2);
        check.due("nothing in it any more", x.host(2), WheelWorks.SCRAPPED);
    }

    @Says(promise = 6, value = "or it is bound")
    static void aTrainOnARoadIsNotScrapped() {
        check.refused("on a road", Check.STATE, () -> Build.evening(5), WheelWorks::night, x -> x.scrap(0));
        WheelWorks x = Build.evening(5);
        x.night();
        x.out();
        x.scrap(0);
        check.due("it is out", x.host(0), WheelWorks.SCRAPPED);
    }

    @Says(promise = 6, value = "or waits for the night")
    static void aTrainThatWaitsIsNotScrapped() {
        for (int train = 0; train < 8; train++) {
            int waiting = train;
            check.refused("train " + train + " of 8 that wait", Check.STATE,
                () -> Build.evening(5, 6, 7, 8, 9, 10, 11, 12), x -> x.scrap(waiting));
        }
        WheelWorks x = Build.evening(5);
        int other = x.part(WheelWorks.TRAIN, 0, 0);
        x.scrap(other);
        check.due("another one", x.host(other), WheelWorks.SCRAPPED);
    }

    // ---- promise 20: host

    @Says(promise = Says.TERMS, value = "A part is in the store, as at first, in a host, or scrapped.")
    static void inOnePlaceAlone() {
        WheelWorks x = thinTrain();
        for (int part = 5; part <= 9; part++) {
            check.due("in the store at first", x.host(part), WheelWorks.NONE);
        }
        x.fit(9, 7);
        check.due("in a host", x.host(9), 7);
        x.take(9);
        check.due("in the store", x.host(9), WheelWorks.NONE);
        x.scrap(7);
        x.scrap(9);
        check.due("scrapped", x.host(9), WheelWorks.SCRAPPED);
        check.throwing("no way into a host", Check.STATE, () -> x.fit(9, 2));
        check.throwing("nor to the store", Check.STATE, () -> x.take(9));
        check.due("scrapped for good", x.host(9), WheelWorks.SCRAPPED);
    }

    @Says(promise = 20, value = "Returns its host; NONE for the store, or SCRAPPED.")
    static void whereAPartIs() {
        WheelWorks x = Build.oneOfEach();
        check.due("at first", x.host(1), WheelWorks.NONE);
        x.fit(1, 0);
        check.due("in part 0", x.host(1), 0);
        x.fit(2, 1);
        check.due("in part 1, not in its train", x.host(2), 1);
        x.take(1);
        check.due("in the store again", x.host(1), WheelWorks.NONE);
        check.due("in part 1 still", x.host(2), 1);
        x.scrap(4);
        check.due("scrapped", x.host(4), WheelWorks.SCRAPPED);
        check.due("a train on a road is in the store", Build.onRoad().host(0), WheelWorks.NONE);
        check.due("a train that waits too", Build.waiting().host(0), WheelWorks.NONE);
    }

    @Says(promise = 20, value = "Throws IndexOutOfBoundsException if there is no such part")
    static void noSuchPartIsAnywhere() {
        check.noSuchPart(Build::oneOfEach, WheelWorks::host);
        check.noSuchPart(WheelWorks::new, WheelWorks::host);
    }

    // ---- promise 21: head

    @Says(promise = 21, value = "Returns the head of the tree of a part.")
    static void headsAtEachDepth() {
        WheelWorks x = Build.fullTrain();
        for (int part = 0; part < Build.PARTS_OF_TRAIN; part++) {
            check.due("head of " + part, x.head(part), 0);
        }
        int other = Build.train(x, 0);
        check.due("head of the last part of another train", x.head(other + 18), other);
        x.take(10);
        check.due("head of a coach that is taken", x.head(10), 10);
        check.due("head of a bogie in it", x.head(11), 10);
        check.due("head of a motor in that", x.head(14), 10);
        check.due("head of the coach that is not", x.head(1), 0);
    }

    @Says(promise = Says.TERMS, value = "a part that is in no host is the head of a tree of its own")
    static void aPartInNoHostIsItsOwnHead() {
        for (int part = 0; part <= 4; part++) {
            check.due("in the store", Build.oneOfEach().head(part), part);
            check.due("scrapped", Build.scrapped().head(part), part);
        }
    }

    @Says(promise = 21, value = "Throws IndexOutOfBoundsException if there is no such part")
    static void noSuchPartHasAHead() {
        check.noSuchPart(Build::oneOfEach, WheelWorks::head);
        check.noSuchPart(WheelWorks::new, WheelWorks::head);
    }

    // ---- promise 23: trace

    /** Bogie 2 has been in both coaches, 0 and 1, and is scrapped. */
    private static WheelWorks moved() {
        WheelWorks x = new WheelWorks();
        x.part(WheelWorks.COACH, 0, 0);
        x.part(WheelWorks.COACH, 0, 0);
        x.part(WheelWorks.BOGIE, 0, 0);
        x.part(WheelWorks.BOGIE, 0, 0);
        x.fit(2, 0);
        x.fit(3, 1);
        x.take(2);
        x.fit(2, 1);
        x.take(2);
        x.scrap(2);
        return x;
    }

    @Says(promise = 23, value = "Returns as host() tells.")
    static void movesInTheirOrder() {
        int[] due = {0, WheelWorks.NONE, 1, WheelWorks.NONE, WheelWorks.SCRAPPED};
        WheelWorks x = moved();
        for (int move = 0; move < due.length; move++) {
            check.due("move " + move, x.trace(2, move), due[move]);
        }
        check.due("that of the other bogie", x.trace(3, 0), 1);
    }

    @Says(promise = 23, value = "move: 0 for the first one")
    static void theFirstAndTheLastMove() {
        check.due("the first", moved().trace(2, 0), 0);
        check.due("the last", moved().trace(2, 4), WheelWorks.SCRAPPED);
        check.refused("one behind the last", Check.INDEX, TreeTest::moved, x -> x.trace(2, 5));
        check.refused("one before the first", Check.INDEX, TreeTest::moved, x -> x.trace(2, -1));
    }

    @Says(promise = 23, value = "Throws IndexOutOfBoundsException if there is no such part, or move of it")
    static void noSuchMove() {
        for (int move : new int[] {0, 1, -1, Integer.MIN_VALUE, Integer.MAX_VALUE}) {
            check.refused("of what has not moved", Check.INDEX, TreeTest::moved, x -> x.trace(0, move));
        }
        check.refused("the least", Check.INDEX, TreeTest::moved, x -> x.trace(2, Integer.MIN_VALUE));
        check.refused("the greatest", Check.INDEX, TreeTest::moved, x -> x.trace(2, Integer.MAX_VALUE));
        check.refused("behind the one move of another", Check.INDEX, TreeTest::moved, x -> x.trace(3, 1));
    }

    @Says(promise = 23, value = "Throws IndexOutOfBoundsException if there is no such part, or move of it")
    static void movesOfNoSuchPart() {
        check.noSuchPart(TreeTest::moved, (x, part) -> x.trace(part, 0));
        check.noSuchPart(WheelWorks::new, (x, part) -> x.trace(part, 0));
    }

    @Says(promise = 23, value = "Returns where a part came by a move.")
    static void aCallThatIsRefusedIsNoMove() {
        WheelWorks x = thinTrain();
        check.throwing("it is in a host", Check.STATE, () -> x.fit(1, 5));
        check.throwing("and is not scrapped", Check.STATE, () -> x.scrap(1));
        check.throwing("a second move", Check.INDEX, () -> x.trace(1, 1));
        x.take(1);
        check.due("the second move", x.trace(1, 1), WheelWorks.NONE);
        check.throwing("it is in no host", Check.STATE, () -> x.take(1));
        check.throwing("a third move", Check.INDEX, () -> x.trace(1, 2));
        check.throwing("what is in it has not moved", Check.INDEX, () -> x.trace(2, 1));
    }

    @Says(promise = 23, value = "Returns where a part came by a move.")
    static void runsAndNightsAreNoMoves() {
        WheelWorks x = Build.outAgain();
        x.run(0, 1, 0);
        check.throwing("of the train that ran", Check.INDEX, () -> x.trace(0, 0));
        check.due("of a coach of it, as it was fitted", x.trace(1, 0), 0);
        check.throwing("of a coach of it, behind that", Check.INDEX, () -> x.trace(1, 1));
    }

    @Says(promise = 23, value = "Returns where a part came by a move.")
    static void asManyMovesAsCallsGo() {
        WheelWorks x = new WheelWorks();
        x.part(WheelWorks.COACH, 0, 0);
        x.part(WheelWorks.BOGIE, 0, 0);
        for (int move = 0; move < 506; move += 2) {
            x.fit(1, 0);
            x.take(1);
        }
        check.due("how many", x.ofPart(1, 8), 506);
        check.due("the last but one", x.trace(1, 504), 0);
        check.due("the last", x.trace(1, 505), WheelWorks.NONE);
        check.throwing("one behind it, by the 512th call", Check.INDEX, () -> x.trace(1, 506));
    }
}
