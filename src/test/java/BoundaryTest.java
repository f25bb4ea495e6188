/**
 * A method for each sentence of the document that names a boundary, in the document's order: the value just inside it
 * and the value just outside, the empty and the full. What refused calls leave as it was, RefusalTest looks at.
 */
public final class BoundaryTest extends Checks {
    private static final int LOG = 160;

    public static void main(String[] args) {
        theHead();
        rows();
        source();
        log();
        pipeline();
        channel();
        sink();
        promises1To9();
        promises10To21();
        DUE.finish();
    }

    private static void theHead() {
        the512thCallAfterManyEpochs();
        the512thCallAfterManyTicks();
        the512thCallAfterManyEntries();
    }

    private static void rows() {
        keysAreFrom0ToKMinus1();
        groupsAreFrom0To3();
        amountsAreAllInts();
        noRowIsNoRowsNumber();
    }

    private static void source() {
        theFirstRows();
        numbersAreGivenOnce();
        atMostFourAreOpen();
        aKeyHasOneLocker();
        aTransactionSeesWhatItDidLast();
    }

    private static void log() {
        positionsAreFrom0To159();
        aLowAndAHighCanBeLast();
        roomForAPut();
        roomForARemove();
        roomForALow();
        roomForAHigh();
        roomForABegin();
        anEndHasRoomAlways();
        aSourceCrashHasRoomAlways();
        whatNeedsNoRoom();
    }

    private static void pipeline() {
        fromIsMinus1AtFirst();
        beforeOfTheFirstEventIsFrom();
        aCommitAtFromIsNotEmitted();
        theQueueHoldsFour();
        theQueueIsEmptiedAndFilledAgain();
        aHighWaitsForTheQueue();
        otherEntriesDoNotWaitForTheQueue();
        commitsBetweenLowAndHighStrike();
        aCommitAfterTheHighStrikesNothing();
        aCommitBeforeTheLowStrikesNothing();
        allKeysOfATransactionAreStruck();
        marksOfAnOldChunkWorkDoNothing();
        nextGrowsByChunk();
    }

    private static void channel() {
        theChannelHoldsEight();
        anEmittedEventIsLostIfThereAreEight();
        anEventSentAgainIsLostIfThereAreEight();
        anAckOfApplyIsLostIfThereAreEight();
        anAckOfDeliverTakesTheFreedPlace();
        packetsBearWhatWasWhenSent();
        epochIs0AtFirst();
        sentAgainAfterTimeoutTicks();
        timeGoesOnBeforeTheEvent();
        sendingAgainBeginsTheTimeoutAgain();
    }

    private static void sink() {
        theSinkIsEmptyAtFirst();
        atMostOneIsStaged();
        progressIsAtMostK();
        putsBelowLeastRemove();
        chunkRowsBelowLeastAreNotSet();
        theSmallestAndTheLargestLeast();
        theOrderOfTheLogCounts();
        onlyItsOwnPutsAndRemovesAreDone();
    }

    private static void promises1To9() {
        keysOfTheConstructor();
        chunkOfTheConstructor();
        timeoutOfTheConstructor();
        lockItsOwnKeyAgain();
        removeWhatItPutItself();
        endAnswersThePosition();
        endOfATransactionThatDidNothing();
        rowOfMinus1IsTheTables();
        crashOfParties0To2();
        aSourceCrashEndsAllThatAreOpen();
        aSourceCrashWithNoneOpen();
        aCrashLeavesTheOtherParties();
        aPipelineCrashOfANewObject();
        aPipelineCrashBetweenReadAndStored();
        snapshotUpToK();
        snapshotAtEachPhase();
        aCrashInEachPhase();
    }

    private static void promises10To21() {
        stepOf0To100();
        stepToTheEndOfTheLog();
        waitingFrom0To4();
        tickOf0To50();
        tickWithAnEmptyQueue();
        deliverTheFirstAndTheLast();
        deliverAtPosition();
        deliverWithAnotherBefore();
        deliverAnAckAtTheEventsPosition();
        deliverAnAckAndTheOthersKeepTheirTimes();
        deliverAnAckToAnEmptyQueue();
        deliverOfAnotherEpoch();
        alterTheFirstAndTheLast();
        alterTwiceUpToEight();
        flightFrom0To8();
        packetWords0To3();
        applyOnce();
        storedOfTheFirstAndTheLastKey();
        viewOfGroups0To3();
        viewSumsAboveAndBelowInt();
        positionFromMinus1To159();
        progressFrom0ToK();
    }

    private static void the512thCallAfterManyEpochs() {
        ChangeFeed x = new ChangeFeed(1, 1, 1, 0);
        for (int call = 1; call <= 508; call++) {
            x.crash(1);
        }
        x.begin();
        x.end(0, true);
        x.step(1);
        DUE.is("the 512th call: the epoch", x.packet(0, 1), 508);
    }

    private static void the512thCallAfterManyTicks() {
        ChangeFeed x = new ChangeFeed(1, 1, 20, 0);
        commitEmpty(x, 1);
        x.step(1);
        for (int call = 4; call <= 512; call++) {
            DUE.is("call " + call + ": every 20 ticks", x.tick(50), call % 2 == 0 ? 2 : 3);
        }
    }

    private static void the512thCallAfterManyEntries() {
        ChangeFeed x = new ChangeFeed(1, 1, 1, 0);
        for (int n = 0; n < LOG; n++) {
            DUE.is("begin", x.begin(), n);
            DUE.is("end", x.end(n, false), n);
        }
        for (int call = 321; call <= 510; call++) {
            DUE.is("call " + call + ": no room", x.begin(), FULL);
        }
        DUE.is("the 511th call", x.step(100), 100);
        DUE.is("the 512th call", x.step(100), 60);
    }

    private static void keysAreFrom0ToKMinus1() {
        for (int keys : new int[] {1, 2, 11, 12}) {
            ChangeFeed x = new ChangeFeed(keys, 6, 3, 0);
            x.begin();
            for (int k : new int[] {0, keys - 1}) {
                DUE.is("key " + k + " of " + keys + ": row", x.row(-1, k), row(k % 4, 10 * k));
                DUE.is("key " + k + " of " + keys + ": lock", x.lock(0, k), 0);
                DUE.is("key " + k + " of " + keys + ": remove", x.remove(0, k), 0);
                DUE.is("key " + k + " of " + keys + ": put", x.put(0, k, 3, 7), 0);
                DUE.is("key " + k + " of " + keys + ": seen", x.row(0, k), row(3, 7));
            }
            x.end(0, true);
            finishAll(x);
            DUE.is("the last key is stored", x.stored(keys - 1), row(3, 7));
            x.begin();
            for (int k : new int[] {MIN, -1, keys, MAX}) {
                DUE.is("key " + k + " of " + keys + ": lock", x.lock(1, k), BAD);
                DUE.is("key " + k + " of " + keys + ": put", x.put(1, k, 0, 1), BAD);
                DUE.is("key " + k + " of " + keys + ": remove", x.remove(1, k), BAD);
                DUE.is("key " + k + " of " + keys + ": row", x.row(-1, k), NO_ROW);
                DUE.is("key " + k + " of " + keys + ": seen", x.row(1, k), NO_ROW);
                DUE.is("key " + k + " of " + keys + ": stored", x.stored(k), NO_ROW);
            }
        }
    }

    private static void groupsAreFrom0To3() {
        ChangeFeed x = new ChangeFeed(4, 2, 3, 0);
        x.begin();
        DUE.is("group -1", x.put(0, 0, -1, 1), BAD);
        DUE.is("group 0", x.put(0, 1, 0, 1), 0);
        DUE.is("group 3", x.put(0, 2, 3, 1), 0);
        DUE.is("group 4", x.put(0, 3, 4, 1), BAD);
        DUE.is("group 0", x.row(0, 1), 1);
        DUE.is("group 3", x.row(0, 2), 3 * 4294967296L + 1);
    }

    private static void amountsAreAllInts() {
        int[] amounts = {MIN, MIN + 1, -1, 0, 1, MAX - 1, MAX};
        long[] numbers = {2147483648L, 2147483649L, 4294967295L, 0, 1, 2147483646L, 2147483647L};
        for (int g : new int[] {0, 3}) {
            ChangeFeed x = new ChangeFeed(7, 2, 3, MIN);
            x.begin();
            for (int k = 0; k < amounts.length; k++) {
                DUE.is("put " + amounts[k], x.put(0, k, g, amounts[k]), 0);
                DUE.is("seen " + amounts[k], x.row(0, k), g * 4294967296L + numbers[k]);
            }
            x.end(0, true);
            finishAll(x);
            for (int k = 0; k < amounts.length; k++) {
                DUE.is("in the table " + amounts[k], x.row(-1, k), g * 4294967296L + numbers[k]);
                DUE.is("stored " + amounts[k], x.stored(k), g * 4294967296L + numbers[k]);
            }
        }
    }

    private static void noRowIsNoRowsNumber() {
        ChangeFeed x = new ChangeFeed(4, 2, 3, MIN);
        for (int g = 0; g < 4; g++) {
            commitPut(x, g, g, -1);
            DUE.is("the amount -1 is a row", x.row(-1, g), (g + 1) * 4294967296L - 1);
        }
        finishAll(x);
        DUE.is("a stored row", x.stored(0), 4294967295L);
        DUE.is("a stored row", x.stored(3), 17179869183L);
        DUE.is("it counts", x.view(3, false), 1);
        DUE.is("it counts", x.view(3, true), -1);
        commitRemove(x, 3);
        DUE.is("it can be removed", x.row(-1, 3), NO_ROW);
    }

    private static void theFirstRows() {
        ChangeFeed x = new ChangeFeed(12, 6, 3, 0);
        long[] groups = {0, 1, 2, 3, 0, 1, 2, 3, 0, 1, 2, 3};
        for (int k = 0; k < 12; k++) {
            DUE.is("the first row of " + k, x.row(-1, k), groups[k] * 4294967296L + k * 10);
        }
    }

    private static void numbersAreGivenOnce() {
        ChangeFeed x = new ChangeFeed(2, 1, 3, 0);
        DUE.is("the first number", x.begin(), 0);
        x.end(0, false);
        DUE.is("not the ended one's", x.begin(), 1);
        for (int n = 2; n < 5; n++) {
            DUE.is("the next number", x.begin(), n);
        }
        DUE.is("four open", x.begin(), FULL);
        DUE.is("four open", x.begin(), FULL);
        x.crash(0);
        DUE.is("a refused begin uses no number", x.begin(), 5);
    }

    private static void atMostFourAreOpen() {
        ChangeFeed x = new ChangeFeed(2, 1, 3, 0);
        for (int n = 0; n < 3; n++) {
            x.begin();
        }
        DUE.is("the fourth", x.begin(), 3);
        DUE.is("the fifth", x.begin(), FULL);
        for (int n = 0; n < 4; n++) {
            DUE.is("all four are open", x.row(n, 0), row(0, 0));
        }
        DUE.is("the fifth is not", x.end(4, true), BAD);
        x.end(3, true);
        DUE.is("the fourth again", x.begin(), 4);
        DUE.is("the fifth again", x.begin(), FULL);
    }

    private static void aKeyHasOneLocker() {
        ChangeFeed x = new ChangeFeed(12, 6, 3, 0);
        x.begin();
        x.begin();
        x.begin();
        for (int k = 0; k < 12; k++) {
            DUE.is("one locks all keys", x.lock(0, k), 0);
            DUE.is("the second gets none", x.lock(1, k), LOCKED);
        }
        x.end(0, true);
        for (int k = 0; k < 12; k++) {
            DUE.is("the second gets all", x.lock(1, k), 0);
            DUE.is("the third gets none", x.lock(2, k), LOCKED);
        }
        x.end(1, false);
        for (int k = 0; k < 12; k++) {
            DUE.is("the third gets all", x.lock(2, k), 0);
        }
        x.crash(0);
        x.begin();
        for (int k = 0; k < 12; k++) {
            DUE.is("a crash loosens all", x.lock(3, k), 0);
        }

        ChangeFeed y = new ChangeFeed(12, 6, 3, 0);
        y.begin();
        y.begin();
        for (int k = 0; k < 12; k++) {
            DUE.is("at first no key is locked", y.lock(1, k), 0);
            DUE.is("the first gets none", y.lock(0, k), LOCKED);
        }
    }

    private static void aTransactionSeesWhatItDidLast() {
        ChangeFeed x = new ChangeFeed(3, 1, 3, 0);
        x.begin();
        commitPut(x, 1, 2, 11);
        DUE.is("it did nothing: the table", x.row(0, 1), row(2, 11));
        x.lock(0, 1);
        DUE.is("it only locked: the table", x.row(0, 1), row(2, 11));
        x.lock(0, 2);
        DUE.is("it only locked: the table's first row", x.row(0, 2), row(2, 20));
        x.put(0, 1, 0, 1);
        x.put(0, 1, 0, 2);
        DUE.is("the last put", x.row(0, 1), row(0, 2));
        x.remove(0, 1);
        DUE.is("the remove", x.row(0, 1), NO_ROW);
        x.put(0, 1, 0, 3);
        DUE.is("the put after the remove", x.row(0, 1), row(0, 3));
        int later = x.begin();
        DUE.is("a later one: the table", x.row(later, 1), row(2, 11));
        x.put(later, 0, 3, 9);
        DUE.is("an earlier one: the table", x.row(0, 0), row(0, 0));
        x.end(later, false);
        x.lock(0, 0);
        DUE.is("what was aborted is gone", x.row(0, 0), row(0, 0));
        x.end(0, true);
        DUE.is("what was aborted is gone", x.row(-1, 0), row(0, 0));
        DUE.is("what was committed is there", x.row(-1, 1), row(0, 3));
    }

    private static void positionsAreFrom0To159() {
        ChangeFeed x = new ChangeFeed(1, 1, 3, 0);
        x.begin();
        DUE.is("the first position", x.end(0, true), 0);
        x.begin();
        for (int i = 1; i < LOG - 1; i++) {
            DUE.is("put", x.put(1, 0, 2, i), 0);
        }
        DUE.is("the last place is kept", x.put(1, 0, 2, 7), FULL);
        DUE.is("the last position", x.end(1, true), LOG - 1);
        DUE.is("the log is full", x.begin(), FULL);
        DUE.is("the log is full", x.snapshot(), FULL);
        DUE.is("all is read", x.step(100) + x.step(100), LOG);
        packetIs(x, 1, 0, 0, LOG - 1, 0);
        finishAll(x);
        DUE.is("all is stored", x.position(), LOG - 1);
        DUE.is("the last put", x.stored(0), row(2, LOG - 2));
    }

    private static void aLowAndAHighCanBeLast() {
        ChangeFeed x = filled(LOG - 2, 0);
        writeChunk(x);
        DUE.is("the log is full", x.begin(), FULL);
        x.step(100);
        x.step(100);
        packetIs(x, 1, 1, 0, LOG - 1, LOG - 3);
        finishAll(x);
        DUE.is("a HIGH is last", x.position(), LOG - 1);
        DUE.is("its rows are stored", x.stored(5), row(1, 50));
        DUE.is("no room for another LOW", x.snapshot(), FULL);

        ChangeFeed y = filled(LOG - 1, 0);
        DUE.is("a LOW is last", y.snapshot(), 1);
        DUE.is("select", y.snapshot(), 2);
        DUE.is("no room for the HIGH", y.snapshot(), FULL);
        DUE.is("all is read", y.step(100) + y.step(100), LOG);
        y.crash(1);
        DUE.is("no room for another LOW", y.snapshot(), FULL);
    }

    private static void roomForAPut() {
        for (int open = 1; open <= 4; open++) {
            ChangeFeed x = filled(LOG - open - 1, open);
            DUE.is("a put, as many free as open, " + open, x.put(open - 1, 1, 1, 1), 0);
            DUE.is("a put, fewer free than open, " + open, x.put(open - 1, 1, 1, 2), FULL);
            DUE.is("the first put stands", x.row(open - 1, 1), row(1, 1));
        }
    }

    private static void roomForARemove() {
        for (int open = 1; open <= 4; open++) {
            ChangeFeed x = filled(LOG - open - 1, open);
            DUE.is("a remove, as many free as open, " + open, x.remove(open - 1, 1), 0);
            DUE.is("a remove, fewer free than open, " + open, x.remove(open - 1, 2), FULL);
            DUE.is("the second one's row stands", x.row(open - 1, 2), row(2, 20));
        }
    }

    private static void roomForALow() {
        for (int open = 0; open <= 4; open++) {
            ChangeFeed x = filled(LOG - open - 1, open);
            DUE.is("a LOW, as many free as open, " + open, x.snapshot(), 1);
            ChangeFeed y = filled(LOG - open, open);
            DUE.is("a LOW, fewer free than open, " + open, y.snapshot(), FULL);
            DUE.is("a LOW, fewer free than open, " + open, y.snapshot(), FULL);
        }
    }

    private static void roomForAHigh() {
        for (int open = 0; open <= 4; open++) {
            ChangeFeed x = filled(LOG - open - 2, open);
            DUE.is("low", x.snapshot(), 1);
            DUE.is("select", x.snapshot(), 2);
            DUE.is("a HIGH, as many free as open, " + open, x.snapshot(), 3);
            ChangeFeed y = filled(LOG - open - 1, open);
            DUE.is("low", y.snapshot(), 1);
            DUE.is("select", y.snapshot(), 2);
            DUE.is("a HIGH, fewer free than open, " + open, y.snapshot(), FULL);
            DUE.is("a HIGH, fewer free than open, " + open, y.snapshot(), FULL);
        }
    }

    private static void roomForABegin() {
        for (int open = 0; open <= 3; open++) {
            ChangeFeed x = filled(LOG - open - 1, open);
            DUE.is("a begin, as many free as open with it, " + open, x.begin(), Math.max(open, 1));
            ChangeFeed y = filled(LOG - open, open);
            DUE.is("a begin, fewer free than open with it, " + open, y.begin(), FULL);
        }
    }

    private static void anEndHasRoomAlways() {
        for (int open = 1; open <= 4; open++) {
            ChangeFeed x = filled(LOG - open, open);
            for (int n = open - 1; n >= 0; n--) {
                DUE.is("an end makes no room", x.put(0, 0, 0, 1), FULL);
                DUE.is("an end makes no room", x.snapshot(), FULL);
                DUE.is("an end, none free but for the ends", x.end(n, n % 2 == 0), LOG - 1 - n);
            }
            DUE.is("in the table", x.row(-1, 0), row(0, 5));
            DUE.is("the log is full", x.begin(), FULL);
        }
    }

    private static void aSourceCrashHasRoomAlways() {
        for (int open = 1; open <= 4; open++) {
            ChangeFeed x = filled(LOG - open, open);
            DUE.is("crash", x.crash(0), true);
            DUE.is("all is written", x.step(100) + x.step(100), LOG);
            DUE.is("no event", x.waiting(), 0);
            DUE.is("the log is full", x.begin(), FULL);
        }
        ChangeFeed y = filled(LOG, 0);
        DUE.is("crash with a full log", y.crash(0), true);
        DUE.is("nothing is written", y.step(100) + y.step(100), LOG);
    }

    private static void whatNeedsNoRoom() {
        ChangeFeed x = filled(LOG - 4, 4);
        DUE.is("lock", x.lock(3, 11), 0);
        DUE.is("lock", x.lock(2, 11), LOCKED);
        DUE.is("row", x.row(0, 0), row(0, 5));
        DUE.is("step", x.step(100) + x.step(100), LOG - 4);
        DUE.is("end", x.end(0, true), LOG - 4);
        DUE.is("step", x.step(100), 1);
        DUE.is("tick", x.tick(3), 1);
        DUE.is("deliver", x.deliver(0), true);
        DUE.is("apply", x.apply(), true);
        DUE.is("crash", x.crash(1), true);
        DUE.is("step", x.step(100) + x.step(100), LOG - 3);
    }

    private static void fromIsMinus1AtFirst() {
        ChangeFeed x = new ChangeFeed(2, 1, 3, 0);
        commitEmpty(x, 1);
        DUE.is("the COMMIT at 0 is read", x.step(100), 1);
        DUE.is("the COMMIT at 0 is emitted", x.waiting(), 1);
        packetIs(x, 0, 0, 0, 0, -1);

        ChangeFeed y = new ChangeFeed(2, 1, 3, 0);
        y.begin();
        y.end(0, false);
        DUE.is("an ABORT at 0 is read", y.step(100), 1);
        DUE.is("an ABORT at 0 is not emitted", y.waiting(), 0);
    }

    private static void beforeOfTheFirstEventIsFrom() {
        ChangeFeed x = new ChangeFeed(4, 2, 3, 0);
        writeChunk(x);
        commitEmpty(x, 2);
        x.step(100);
        packetIs(x, 0, 1, 0, 1, -1);
        packetIs(x, 1, 0, 0, 2, 1);
        packetIs(x, 2, 0, 0, 3, 2);
        storePacket(x, 0);
        storePacket(x, 0);
        x.crash(1);
        emptyChannel(x);
        x.step(100);
        packetIs(x, 0, 0, 1, 3, 2);
        writeChunk(x);
        x.step(100);
        packetIs(x, 1, 1, 1, 5, 3);
        x.crash(1);
        emptyChannel(x);
        x.step(100);
        packetIs(x, 0, 0, 2, 3, 2);
        DUE.is("the HIGH is not of this epoch", x.flight(), 1);
    }

    private static void aCommitAtFromIsNotEmitted() {
        for (int stored = 0; stored <= 3; stored++) {
            ChangeFeed x = new ChangeFeed(2, 1, 3, 0);
            commitEmpty(x, 3);
            x.step(100);
            for (int i = 0; i < stored; i++) {
                storePacket(x, 0);
            }
            x.crash(1);
            emptyChannel(x);
            DUE.is("reads all", x.step(100), 3);
            DUE.is("emits those above " + (stored - 1), x.waiting(), 3 - stored);
            if (stored < 3) {
                packetIs(x, 0, 0, 1, stored, stored - 1);
            }
        }
    }

    private static void theQueueHoldsFour() {
        ChangeFeed x = new ChangeFeed(2, 1, 3, 0);
        DUE.is("the queue is empty", x.waiting(), 0);
        commitEmpty(x, 5);
        DUE.is("three are read", x.step(3), 3);
        DUE.is("the fourth is read", x.step(1), 1);
        DUE.is("the queue is full", x.waiting(), 4);
        DUE.is("the fifth is not read", x.step(1), 0);
        DUE.is("the queue is full", x.waiting(), 4);
        DUE.is("the fifth is not sent", x.flight(), 4);
        storePacket(x, 0);
        DUE.is("stored, but the ACK is under way", x.step(1), 0);
        x.deliver(3);
        DUE.is("one has left", x.waiting(), 3);
        DUE.is("the fifth is read", x.step(100), 1);
        packetIs(x, 3, 0, 0, 4, 3);

        ChangeFeed y = new ChangeFeed(2, 1, 3, 0);
        commitEmpty(y, 5);
        DUE.is("as many as the queue holds", y.step(100), 4);
        DUE.is("no more", y.step(100), 0);
    }

    private static void theQueueIsEmptiedAndFilledAgain() {
        ChangeFeed x = new ChangeFeed(2, 1, 3, 0);
        commitEmpty(x, 9);
        x.step(100);
        for (int i = 0; i < 4; i++) {
            storePacket(x, 0);
        }
        DUE.is("four ACKs", x.flight(), 4);
        x.deliver(3);
        DUE.is("the last one empties the queue", x.waiting(), 0);
        emptyChannel(x);
        DUE.is("four more", x.step(100), 4);
        for (int i = 0; i < 4; i++) {
            packetIs(x, i, 0, 0, 4 + i, 3 + i);
        }
        DUE.is("the ninth waits", x.step(100), 0);
    }

    private static void aHighWaitsForTheQueue() {
        ChangeFeed x = new ChangeFeed(4, 2, 3, 0);
        commitEmpty(x, 4);
        writeChunk(x);
        DUE.is("up to the HIGH", x.step(100), 5);
        DUE.is("the HIGH is not read", x.step(100), 0);
        DUE.is("the chunk work goes on", x.snapshot(), BAD);
        DUE.is("no event of it", x.flight(), 4);
        storePacket(x, 0);
        x.deliver(3);
        DUE.is("the HIGH is read", x.step(100), 1);
        packetIs(x, 3, 1, 0, 5, 3);
        DUE.is("the chunk work is over", x.snapshot(), 1);

        ChangeFeed y = new ChangeFeed(4, 2, 3, 0);
        commitEmpty(y, 3);
        writeChunk(y);
        DUE.is("a HIGH is the fourth", y.step(100), 5);
        DUE.is("the queue is full", y.waiting(), 4);
    }

    private static void otherEntriesDoNotWaitForTheQueue() {
        ChangeFeed x = new ChangeFeed(4, 2, 3, 0);
        commitEmpty(x, 4);
        writeChunk(x);
        x.crash(1);
        x.begin();
        x.begin();
        x.put(4, 0, 0, 1);
        x.remove(5, 1);
        x.end(5, false);
        x.snapshot();
        x.end(4, true);
        DUE.is("four COMMITs", x.step(4), 4);
        DUE.is("the queue is full", x.waiting(), 4);
        DUE.is("an old LOW, an old HIGH, PUT, REMOVE, ABORT, LOW", x.step(100), 6);
        DUE.is("the COMMIT waits", x.step(1), 0);
        DUE.is("the queue is full", x.waiting(), 4);
    }

    private static void commitsBetweenLowAndHighStrike() {
        ChangeFeed x = new ChangeFeed(3, 3, 3, 0);
        x.begin();
        x.put(0, 0, 3, 100);
        x.begin();
        x.put(1, 1, 3, 200);
        x.snapshot();
        x.snapshot();
        DUE.is("just after the LOW", x.end(0, true), 3);
        DUE.is("just before the HIGH", x.end(1, true), 4);
        DUE.is("high", x.snapshot(), 3);
        finishAll(x);
        DUE.is("the HIGH was stored last", x.position(), 5);
        DUE.is("struck just after the LOW", x.stored(0), row(3, 100));
        DUE.is("struck just before the HIGH", x.stored(1), row(3, 200));
        DUE.is("not struck", x.stored(2), row(2, 20));
    }

    private static void aCommitAfterTheHighStrikesNothing() {
        ChangeFeed x = new ChangeFeed(2, 2, 3, 0);
        x.begin();
        x.put(0, 0, 3, 100);
        writeChunk(x);
        DUE.is("just after the HIGH", x.end(0, true), 3);
        x.step(100);
        storePacket(x, 0);
        DUE.is("the HIGH bears the row", x.stored(0), row(0, 0));
        storePacket(x, 0);
        DUE.is("the COMMIT comes later", x.stored(0), row(3, 100));
    }

    private static void aCommitBeforeTheLowStrikesNothing() {
        ChangeFeed x = new ChangeFeed(2, 2, 3, 0);
        commitPut(x, 0, 3, 100);
        writeChunk(x);
        x.step(100);
        finishAll(x);
        DUE.is("just before the LOW", x.stored(0), row(3, 100));
        DUE.is("the rest", x.stored(1), row(1, 10));
    }

    private static void allKeysOfATransactionAreStruck() {
        ChangeFeed x = new ChangeFeed(6, 6, 3, 0);
        x.begin();
        x.put(0, 0, 3, 1);
        x.remove(0, 1);
        x.lock(0, 4);
        x.snapshot();
        x.snapshot();
        x.put(0, 2, 3, 3);
        x.remove(0, 3);
        x.end(0, true);
        x.snapshot();
        finishAll(x);
        DUE.is("put before the LOW", x.stored(0), row(3, 1));
        DUE.is("removed before the LOW", x.stored(1), NO_ROW);
        DUE.is("put after the LOW", x.stored(2), row(3, 3));
        DUE.is("removed after the LOW", x.stored(3), NO_ROW);
        DUE.is("only locked", x.stored(4), row(0, 40));
        DUE.is("not touched", x.stored(5), row(1, 50));
    }

    private static void marksOfAnOldChunkWorkDoNothing() {
        ChangeFeed x = new ChangeFeed(4, 2, 3, 0);
        writeChunk(x);
        x.crash(1);
        DUE.is("without a chunk work", x.step(2), 2);
        DUE.is("no event", x.waiting(), 0);
        x.crash(1);
        DUE.is("a new LOW", x.snapshot(), 1);
        DUE.is("the old LOW and HIGH", x.step(2), 2);
        DUE.is("no event", x.waiting(), 0);
        DUE.is("the chunk work goes on", x.snapshot(), 2);
        DUE.is("the chunk work goes on", x.snapshot(), 3);
        x.crash(1);
        writeChunk(x);
        DUE.is("with the new HIGH written", x.step(5), 5);
        DUE.is("no event", x.waiting(), 0);
        DUE.is("the new HIGH is not read", x.snapshot(), BAD);
        DUE.is("the new HIGH", x.step(1), 1);
        packetIs(x, 0, 1, 3, 5, -1);
        finishAll(x);
        DUE.is("one chunk", x.progress(), 2);
    }

    private static void nextGrowsByChunk() {
        for (int chunk = 1; chunk <= 6; chunk++) {
            ChangeFeed x = new ChangeFeed(12, chunk, 3, 0);
            storeChunk(x);
            DUE.is("the first chunk's last key", x.stored(chunk - 1), x.row(-1, chunk - 1));
            DUE.is("not the next one", x.stored(chunk), NO_ROW);
            storeChunk(x);
            DUE.is("the second chunk's first key", x.stored(chunk), x.row(-1, chunk));
            DUE.is("the second chunk's last key", x.stored(2 * chunk - 1), x.row(-1, 2 * chunk - 1));
            DUE.is("not the next one", x.stored(2 * chunk), NO_ROW);
        }
    }

    private static void theChannelHoldsEight() {
        ChangeFeed x = new ChangeFeed(2, 1, 1, 0);
        DUE.is("the channel is empty", x.flight(), 0);
        commitEmpty(x, 4);
        x.step(100);
        x.tick(1);
        DUE.is("the channel is full", x.flight(), 8);
        x.alter(3, false);
        DUE.is("one place is free", x.flight(), 7);
        x.tick(1);
        DUE.is("one of four came", x.flight(), 8);
        packetIs(x, 7, 0, 0, 0, -1);
        packetIs(x, 6, 0, 0, 3, 2);
    }

    private static void anEmittedEventIsLostIfThereAreEight() {
        ChangeFeed x = new ChangeFeed(2, 1, 3, 0);
        commitEmpty(x, 3);
        x.step(1);
        fillChannel(x, 0, 7);
        DUE.is("the eighth comes", x.step(1), 1);
        packetIs(x, 7, 0, 0, 1, 0);
        DUE.is("the ninth is read", x.step(1), 1);
        DUE.is("the ninth waits", x.waiting(), 3);
        DUE.is("the ninth is lost", x.flight(), 8);
        packetIs(x, 7, 0, 0, 1, 0);
        emptyChannel(x);
        DUE.is("it is sent again", x.tick(3), 3);
        packetIs(x, 2, 0, 0, 2, 1);
    }

    private static void anEventSentAgainIsLostIfThereAreEight() {
        ChangeFeed x = new ChangeFeed(2, 1, 2, 0);
        commitEmpty(x, 2);
        x.step(2);
        fillChannel(x, 1, 7);
        x.tick(2);
        DUE.is("the eighth comes, the ninth does not", x.flight(), 8);
        packetIs(x, 7, 0, 0, 0, -1);
        x.alter(0, false);
        x.alter(0, false);
        x.tick(1);
        DUE.is("both were sent", x.flight(), 6);
        x.tick(1);
        DUE.is("both are sent again", x.flight(), 8);
        packetIs(x, 6, 0, 0, 0, -1);
        packetIs(x, 7, 0, 0, 1, 0);
    }

    private static void anAckOfApplyIsLostIfThereAreEight() {
        for (int packets = 7; packets <= 8; packets++) {
            ChangeFeed x = new ChangeFeed(2, 1, 3, 0);
            commitEmpty(x, 1);
            x.step(1);
            x.alter(0, true);
            x.deliver(0);
            fillChannel(x, 0, packets);
            DUE.is("stored", x.apply(), true);
            DUE.is("stored", x.position(), 0);
            DUE.is("eight", x.flight(), 8);
            DUE.is("the ACK is there if there were 7", x.packet(7, 0), packets == 7 ? 2 : 0);
        }
    }

    private static void anAckOfDeliverTakesTheFreedPlace() {
        ChangeFeed x = new ChangeFeed(2, 1, 3, 0);
        commitEmpty(x, 2);
        x.step(2);
        x.alter(0, true);
        storePacket(x, 0);
        fillChannel(x, 0, 8);
        packetIs(x, 1, 0, 0, 0, -1);
        DUE.is("a stored event", x.deliver(1), true);
        DUE.is("eight", x.flight(), 8);
        packetIs(x, 7, 2, 0, 0, 0);
        packetIs(x, 6, 0, 0, 1, 0);
    }

    private static void packetsBearWhatWasWhenSent() {
        ChangeFeed x = new ChangeFeed(2, 1, 3, 0);
        commitEmpty(x, 3);
        x.step(100);
        storePacket(x, 0);
        storePacket(x, 0);
        x.crash(1);
        x.step(100);
        storePacket(x, 3);
        packetIs(x, 0, 0, 0, 2, 1);
        packetIs(x, 1, 2, 0, 0, 0);
        packetIs(x, 2, 2, 0, 1, 0);
        packetIs(x, 3, 2, 1, 2, 0);
    }

    private static void epochIs0AtFirst() {
        ChangeFeed x = new ChangeFeed(2, 1, 1, 0);
        commitEmpty(x, 1);
        for (int epoch = 0; epoch < 5; epoch++) {
            x.step(100);
            packetIs(x, 0, 0, epoch, 0, -1);
            x.crash(0);
            x.crash(2);
            emptyChannel(x);
            x.tick(1);
            packetIs(x, 0, 0, epoch, 0, -1);
            emptyChannel(x);
            x.crash(1);
        }
    }

    private static void sentAgainAfterTimeoutTicks() {
        for (int timeout : new int[] {1, 2, 3, 19, 20}) {
            ChangeFeed x = new ChangeFeed(2, 1, timeout, 0);
            commitEmpty(x, 1);
            x.step(1);
            DUE.is("one tick less than " + timeout, x.tick(timeout - 1), 0);
            DUE.is("not sent", x.flight(), 1);
            DUE.is("the tick " + timeout, x.tick(1), 1);
            DUE.is("sent", x.flight(), 2);
        }
    }

    private static void timeGoesOnBeforeTheEvent() {
        ChangeFeed x = new ChangeFeed(2, 1, 5, 0);
        DUE.is("nothing to send", x.tick(50), 0);
        commitEmpty(x, 2);
        DUE.is("not read yet", x.tick(50), 0);
        x.step(1);
        DUE.is("the time of its sending counts", x.tick(3), 0);
        x.step(1);
        DUE.is("the first one", x.tick(2), 1);
        DUE.is("not the second one yet", x.tick(2), 0);
        DUE.is("the second one", x.tick(1), 1);
        packetIs(x, 3, 0, 0, 1, 0);
    }

    private static void sendingAgainBeginsTheTimeoutAgain() {
        ChangeFeed x = new ChangeFeed(2, 1, 3, 0);
        commitEmpty(x, 1);
        x.step(1);
        DUE.is("the first time again", x.tick(3), 1);
        DUE.is("not yet", x.tick(2), 0);
        DUE.is("the second time again", x.tick(1), 1);
        DUE.is("in one call as in many", x.tick(9), 3);
        DUE.is("none is late", x.tick(2), 0);
        DUE.is("its packet doubles", x.alter(0, true), true);
        DUE.is("that is no sending", x.tick(1), 1);
    }

    private static void theSinkIsEmptyAtFirst() {
        ChangeFeed x = new ChangeFeed(12, 6, 3, MIN);
        DUE.is("POSITION", x.position(), -1);
        DUE.is("PROGRESS", x.progress(), 0);
        DUE.is("nothing is staged", x.apply(), false);
        for (int k = 0; k < 12; k++) {
            DUE.is("no row is stored", x.stored(k), NO_ROW);
        }
        for (int g = 0; g < 4; g++) {
            DUE.is("no row is counted", x.view(g, false), 0);
            DUE.is("no row is summed", x.view(g, true), 0);
        }
    }

    private static void atMostOneIsStaged() {
        ChangeFeed x = new ChangeFeed(2, 1, 3, 0);
        commitPut(x, 0, 1, 1);
        x.step(100);
        x.alter(0, true);
        x.alter(0, true);
        x.deliver(0);
        DUE.is("the same once more", x.deliver(0), true);
        DUE.is("no ACK", x.flight(), 1);
        DUE.is("one", x.apply(), true);
        DUE.is("not two", x.apply(), false);
        DUE.is("stored already: an ACK", x.deliver(0), true);
        DUE.is("two ACKs", x.flight(), 2);
        DUE.is("nothing is staged", x.apply(), false);
    }

    private static void progressIsAtMostK() {
        int[][] keysChunkAndProgress = {{1, 1, 1}, {1, 6, 1}, {5, 6, 5}, {6, 6, 6}, {7, 6, 6, 7}, {12, 6, 6, 12},
                {11, 6, 6, 11}, {5, 2, 2, 4, 5}, {6, 2, 2, 4, 6}, {4, 3, 3, 4}};
        for (int[] one : keysChunkAndProgress) {
            ChangeFeed x = new ChangeFeed(one[0], one[1], 3, 0);
            for (int i = 2; i < one.length; i++) {
                storeChunk(x);
                DUE.is("progress of " + one[0] + " by " + one[1], x.progress(), one[i]);
            }
            DUE.is("no more of " + one[0] + " by " + one[1], x.snapshot(), BAD);
            DUE.is("the last key is stored", x.stored(one[0] - 1), x.row(-1, one[0] - 1));
        }
    }

    private static void putsBelowLeastRemove() {
        ChangeFeed x = new ChangeFeed(4, 2, 3, 50);
        commitPut(x, 0, 1, 50);
        commitPut(x, 1, 1, 49);
        commitPut(x, 2, 1, 51);
        finishAll(x);
        DUE.is("LEAST", x.stored(0), row(1, 50));
        DUE.is("one below LEAST", x.stored(1), NO_ROW);
        DUE.is("one above LEAST", x.stored(2), row(1, 51));
        commitPut(x, 0, 1, 49);
        commitPut(x, 1, 1, 50);
        commitPut(x, 2, 1, 50);
        finishAll(x);
        DUE.is("removed", x.stored(0), NO_ROW);
        DUE.is("stored", x.stored(1), row(1, 50));
        DUE.is("stored", x.stored(2), row(1, 50));
        DUE.is("two rows", x.view(1, false), 2);
        DUE.is("two rows", x.view(1, true), 100);
        DUE.is("the table has it", x.row(-1, 0), row(1, 49));
    }

    private static void chunkRowsBelowLeastAreNotSet() {
        for (int least : new int[] {19, 20, 21}) {
            ChangeFeed x = new ChangeFeed(4, 4, 3, least);
            storeChunk(x);
            DUE.is("below LEAST", x.stored(1), NO_ROW);
            DUE.is("20 with LEAST " + least, x.stored(2), least <= 20 ? row(2, 20) : NO_ROW);
            DUE.is("above LEAST", x.stored(3), row(3, 30));
            DUE.is("progress", x.progress(), 4);
        }
    }

    private static void theSmallestAndTheLargestLeast() {
        int[] leasts = {MIN, MIN + 1, -1, 0, MAX - 1, MAX};
        int[] amounts = {MIN, MIN + 1, -2, -1, 0, MAX - 2, MAX - 1, MAX};
        for (int least : leasts) {
            ChangeFeed x = new ChangeFeed(12, 6, 3, least);
            x.begin();
            for (int k = 0; k < amounts.length; k++) {
                x.put(0, k, 2, amounts[k]);
            }
            x.end(0, true);
            finishAll(x);
            for (int k = 0; k < amounts.length; k++) {
                DUE.is("LEAST " + least + ", amount " + amounts[k], x.stored(k),
                        amounts[k] < least ? NO_ROW : row(2, amounts[k]));
            }
        }
    }

    private static void theOrderOfTheLogCounts() {
        ChangeFeed x = new ChangeFeed(6, 2, 3, 0);
        x.begin();
        x.put(0, 0, 1, 1);
        x.put(0, 0, 2, 2);
        x.put(0, 1, 1, 1);
        x.put(0, 1, 1, -1);
        x.put(0, 2, 1, -1);
        x.put(0, 2, 1, 1);
        x.put(0, 3, 1, 1);
        x.remove(0, 3);
        x.remove(0, 4);
        x.put(0, 4, 1, 1);
        x.end(0, true);
        finishAll(x);
        DUE.is("the last put", x.stored(0), row(2, 2));
        DUE.is("below LEAST last", x.stored(1), NO_ROW);
        DUE.is("below LEAST first", x.stored(2), row(1, 1));
        DUE.is("removed last", x.stored(3), NO_ROW);
        DUE.is("removed first", x.stored(4), row(1, 1));
        DUE.is("not touched", x.stored(5), NO_ROW);
    }

    private static void onlyItsOwnPutsAndRemovesAreDone() {
        ChangeFeed x = new ChangeFeed(6, 2, 3, 0);
        commitPut(x, 4, 1, 1);
        x.begin();
        x.begin();
        x.begin();
        x.put(1, 0, 1, 1);
        x.put(2, 1, 1, 2);
        x.put(3, 2, 1, 3);
        x.remove(3, 4);
        x.put(2, 3, 1, 4);
        x.end(2, true);
        finishAll(x);
        DUE.is("an earlier one's", x.stored(0), NO_ROW);
        DUE.is("its own", x.stored(1), row(1, 2));
        DUE.is("a later one's", x.stored(2), NO_ROW);
        DUE.is("its own", x.stored(3), row(1, 4));
        DUE.is("a later one's remove", x.stored(4), row(1, 1));
        x.end(3, false);
        x.end(1, true);
        finishAll(x);
        DUE.is("its own", x.stored(0), row(1, 1));
        DUE.is("an aborted one's", x.stored(2), NO_ROW);
        DUE.is("an aborted one's remove", x.stored(4), row(1, 1));
    }

    private static void keysOfTheConstructor() {
        int[][] keysAndK = {{MIN, 1}, {-1, 1}, {0, 1}, {1, 1}, {2, 2}, {11, 11}, {12, 12}, {13, 12}, {MAX, 12}};
        for (int[] pair : keysAndK) {
            ChangeFeed x = new ChangeFeed(pair[0], 1, 1, 0);
            x.begin();
            DUE.is("keys " + pair[0] + ": the last key", x.lock(0, pair[1] - 1), 0);
            DUE.is("keys " + pair[0] + ": no key", x.lock(0, pair[1]), BAD);
        }
    }

    private static void chunkOfTheConstructor() {
        int[][] chunks = {{MIN, 1}, {-1, 1}, {0, 1}, {1, 1}, {2, 2}, {5, 5}, {6, 6}, {7, 6}, {MAX, 6}};
        for (int[] pair : chunks) {
            ChangeFeed x = new ChangeFeed(12, pair[0], 1, 0);
            storeChunk(x);
            DUE.is("chunk " + pair[0], x.progress(), pair[1]);
            DUE.is("chunk " + pair[0] + ": the last key", x.stored(pair[1] - 1), x.row(-1, pair[1] - 1));
            DUE.is("chunk " + pair[0] + ": no more", x.stored(pair[1]), NO_ROW);
        }
    }

    private static void timeoutOfTheConstructor() {
        int[][] timeouts = {{MIN, 1}, {-1, 1}, {0, 1}, {1, 1}, {2, 2}, {19, 19}, {20, 20}, {21, 20}, {MAX, 20}};
        for (int[] pair : timeouts) {
            ChangeFeed x = new ChangeFeed(1, 1, pair[0], 0);
            commitEmpty(x, 1);
            x.step(1);
            DUE.is("timeout " + pair[0] + ": not yet", x.tick(pair[1] - 1), 0);
            DUE.is("timeout " + pair[0] + ": now", x.tick(1), 1);
        }
    }

    private static void lockItsOwnKeyAgain() {
        ChangeFeed x = new ChangeFeed(2, 1, 3, 0);
        x.begin();
        DUE.is("lock", x.lock(0, 0), 0);
        DUE.is("lock again", x.lock(0, 0), 0);
        DUE.is("put what it locked", x.put(0, 0, 1, 1), 0);
        DUE.is("lock what it put", x.lock(0, 0), 0);
        DUE.is("it still sees its put", x.row(0, 0), row(1, 1));
        DUE.is("remove what it put", x.remove(0, 0), 0);
        DUE.is("lock what it removed", x.lock(0, 0), 0);
        DUE.is("it still sees no row", x.row(0, 0), NO_ROW);
        DUE.is("one put, one remove", x.end(0, true), 2);
    }

    private static void removeWhatItPutItself() {
        ChangeFeed x = new ChangeFeed(2, 1, 3, 0);
        commitRemove(x, 0);
        x.begin();
        DUE.is("no row in the table", x.remove(1, 0), BAD);
        DUE.is("put", x.put(1, 0, 1, 1), 0);
        DUE.is("the row that it put", x.remove(1, 0), 0);
        DUE.is("the row that it removed", x.remove(1, 0), BAD);
        DUE.is("end", x.end(1, true), 4);
    }

    private static void endAnswersThePosition() {
        ChangeFeed x = new ChangeFeed(2, 1, 3, 0);
        x.begin();
        x.begin();
        DUE.is("the first position", x.end(1, false), 0);
        x.put(0, 0, 1, 1);
        DUE.is("after a PUT", x.end(0, true), 2);
        x.snapshot();
        x.snapshot();
        x.begin();
        DUE.is("after a LOW", x.end(2, true), 4);
        x.snapshot();
        x.begin();
        DUE.is("after a HIGH", x.end(3, false), 6);
        DUE.is("the one that ended", x.end(3, false), BAD);
        DUE.is("the one that did not begin", x.end(4, false), BAD);
        DUE.is("-1 is no transaction", x.end(-1, true), BAD);
    }

    private static void endOfATransactionThatDidNothing() {
        ChangeFeed x = new ChangeFeed(2, 1, 3, 0);
        commitEmpty(x, 1);
        DUE.is("the table stays", x.row(-1, 0), row(0, 0));
        x.step(1);
        storePacket(x, 0);
        DUE.is("it is stored", x.position(), 0);
        DUE.is("no row is stored", x.stored(0), NO_ROW);
    }

    private static void rowOfMinus1IsTheTables() {
        ChangeFeed x = new ChangeFeed(2, 1, 3, 0);
        x.begin();
        x.put(0, 1, 2, 5);
        DUE.is("-1: the table", x.row(-1, 1), row(1, 10));
        DUE.is("0: the transaction", x.row(0, 1), row(2, 5));
        DUE.is("-2: none", x.row(-2, 1), NO_ROW);
        DUE.is("1: not begun", x.row(1, 1), NO_ROW);
        x.end(0, true);
        DUE.is("0: ended", x.row(0, 1), NO_ROW);
        DUE.is("-1: the table", x.row(-1, 1), row(2, 5));
    }

    private static void crashOfParties0To2() {
        ChangeFeed x = new ChangeFeed(2, 1, 3, 0);
        DUE.is("party -1", x.crash(-1), false);
        DUE.is("party 0", x.crash(0), true);
        DUE.is("party 1", x.crash(1), true);
        DUE.is("party 2", x.crash(2), true);
        DUE.is("party 3", x.crash(3), false);
        DUE.is("the least party", x.crash(MIN), false);
        DUE.is("the largest party", x.crash(MAX), false);
    }

    /** In what order the ABORTs stand cannot be seen from outside; that each has one can. */
    private static void aSourceCrashEndsAllThatAreOpen() {
        ChangeFeed x = new ChangeFeed(12, 6, 3, 0);
        for (int n = 0; n < 4; n++) {
            x.begin();
            x.put(n, n, 3, 99);
        }
        x.end(1, true);
        x.begin();
        x.lock(4, 11);
        x.crash(0);
        for (int n = 0; n < 5; n++) {
            DUE.is("ended", x.end(n, true), BAD);
            DUE.is("ended", x.row(n, 0), NO_ROW);
        }
        DUE.is("four PUTs, a COMMIT, four ABORTs", x.step(100), 9);
        DUE.is("one event", x.waiting(), 1);
        for (int k = 0; k < 4; k++) {
            DUE.is("what was open is forgotten", x.row(-1, k), k == 1 ? row(3, 99) : row(k, 10 * k));
        }
        for (int n = 5; n < 9; n++) {
            DUE.is("four can be open", x.begin(), n);
        }
    }

    private static void aSourceCrashWithNoneOpen() {
        ChangeFeed x = new ChangeFeed(2, 1, 3, 0);
        DUE.is("crash", x.crash(0), true);
        DUE.is("nothing is written", x.step(100), 0);
        DUE.is("the first number", x.begin(), 0);
        DUE.is("the first position", x.end(0, true), 0);
    }

    private static void aCrashLeavesTheOtherParties() {
        for (int party = 0; party <= 2; party++) {
            ChangeFeed x = new ChangeFeed(4, 2, 3, 0);
            commitPut(x, 0, 1, 1);
            commitPut(x, 1, 1, 2);
            x.step(100);
            storePacket(x, 0);
            x.deliver(0);
            x.begin();
            x.put(2, 2, 1, 3);
            x.snapshot();
            x.tick(2);
            DUE.is("crash", x.crash(party), true);
            DUE.is("open but for the source's", x.row(2, 2), party == 0 ? NO_ROW : row(1, 3));
            DUE.is("the queue but for the pipeline's", x.waiting(), party == 1 ? 0 : 2);
            DUE.is("the times but for the pipeline's", x.tick(1), party == 1 ? 0 : 2);
            DUE.is("the chunk work but for the pipeline's", x.snapshot(), party == 1 ? 1 : 2);
            DUE.is("staged after the source's alone", x.apply(), party == 0);
            DUE.is("POSITION", x.position(), party == 0 ? 3 : 1);
            DUE.is("what is stored", x.stored(0), row(1, 1));
            DUE.is("the table", x.row(-1, 1), row(1, 2));
        }
    }

    private static void aPipelineCrashOfANewObject() {
        ChangeFeed x = new ChangeFeed(2, 1, 3, 0);
        DUE.is("crash", x.crash(1), true);
        commitEmpty(x, 1);
        x.step(1);
        packetIs(x, 0, 0, 1, 0, -1);
        storePacket(x, 0);
        storeChunk(x);
        DUE.is("NEXT was 0", x.stored(0), row(0, 0));
        DUE.is("one chunk", x.progress(), 1);
    }

    private static void aPipelineCrashBetweenReadAndStored() {
        ChangeFeed x = new ChangeFeed(4, 2, 3, 0);
        writeChunk(x);
        x.step(100);
        x.deliver(0);
        x.crash(1);
        DUE.is("what is staged is forgotten", x.apply(), false);
        DUE.is("the queue is empty", x.waiting(), 0);
        DUE.is("nothing is sent again", x.tick(50), 0);
        DUE.is("reads from 0", x.step(100), 2);
        DUE.is("no event", x.waiting(), 0);
        storeChunk(x);
        DUE.is("NEXT was PROGRESS, 0", x.stored(0), row(0, 0));
        DUE.is("progress", x.progress(), 2);
        storeChunk(x);
        DUE.is("progress", x.progress(), 4);
        x.crash(1);
        DUE.is("NEXT is PROGRESS, K", x.snapshot(), BAD);
    }

    private static void snapshotUpToK() {
        int[][] keysChunkAndChunks = {{1, 1, 1}, {1, 6, 1}, {6, 6, 1}, {7, 6, 2}, {12, 6, 2}, {4, 1, 4}, {5, 2, 3}};
        for (int[] one : keysChunkAndChunks) {
            ChangeFeed x = new ChangeFeed(one[0], one[1], 3, 0);
            for (int i = 0; i < one[2]; i++) {
                DUE.is("a chunk begins", x.snapshot(), 1);
                DUE.is("it selects", x.snapshot(), 2);
                DUE.is("a HIGH is written", x.snapshot(), 3);
                x.step(100);
            }
            DUE.is("NEXT is K or more", x.snapshot(), BAD);
            DUE.is("as many events as chunks", x.waiting(), one[2]);
        }
    }

    private static void snapshotAtEachPhase() {
        ChangeFeed x = new ChangeFeed(4, 2, 3, 0);
        DUE.is("begins", x.snapshot(), 1);
        DUE.is("a LOW is written", x.step(100), 1);
        DUE.is("selects", x.snapshot(), 2);
        DUE.is("nothing is written", x.step(100), 0);
        DUE.is("a HIGH", x.snapshot(), 3);
        DUE.is("the HIGH is not read", x.snapshot(), BAD);
        DUE.is("a HIGH is written", x.step(100), 1);
        DUE.is("begins", x.snapshot(), 1);
        DUE.is("selects before its LOW is read", x.snapshot(), 2);
        DUE.is("a HIGH before its LOW is read", x.snapshot(), 3);
        DUE.is("the LOW is read", x.step(1), 1);
        DUE.is("the HIGH is not read", x.snapshot(), BAD);
        DUE.is("the HIGH is read", x.step(1), 1);
        DUE.is("no more keys", x.snapshot(), BAD);
    }

    private static void aCrashInEachPhase() {
        for (int calls = 0; calls <= 3; calls++) {
            for (int read = 0; read <= 1; read++) {
                ChangeFeed x = new ChangeFeed(4, 2, 3, 0);
                for (int i = 0; i < calls; i++) {
                    x.snapshot();
                }
                x.step(100 * read);
                x.crash(1);
                storeChunk(x);
                DUE.is("the chunk is taken again", x.progress(), 2);
                DUE.is("the chunk is taken again", x.stored(1), row(1, 10));
                DUE.is("no more than the chunk", x.stored(2), NO_ROW);
            }
        }
    }

    private static void stepOf0To100() {
        ChangeFeed x = filled(120, 1);
        DUE.is("step -1", x.step(-1), BAD);
        DUE.is("step 0", x.step(0), 0);
        DUE.is("step 101", x.step(101), BAD);
        DUE.is("the least step", x.step(MIN), BAD);
        DUE.is("the largest step", x.step(MAX), BAD);
        DUE.is("step 1", x.step(1), 1);
        DUE.is("step 100", x.step(100), 100);
        DUE.is("the rest", x.step(100), 19);
    }

    private static void stepToTheEndOfTheLog() {
        ChangeFeed x = new ChangeFeed(2, 1, 3, 0);
        DUE.is("an empty log", x.step(1), 0);
        x.begin();
        DUE.is("begin writes nothing", x.step(1), 0);
        fillLog(x, 0, 100);
        DUE.is("all hundred", x.step(100), 100);
        DUE.is("no more", x.step(1), 0);
        fillLog(x, 0, 2);
        DUE.is("fewer than there are", x.step(1), 1);
        DUE.is("fewer than asked", x.step(2), 1);
    }

    private static void waitingFrom0To4() {
        ChangeFeed x = new ChangeFeed(2, 1, 3, 0);
        commitEmpty(x, 6);
        for (int i = 0; i <= 4; i++) {
            DUE.is("waiting", x.waiting(), i);
            x.step(1);
        }
        DUE.is("no more than four", x.waiting(), 4);
        for (int i = 0; i < 4; i++) {
            storePacket(x, 0);
            x.deliver(x.flight() - 1);
            DUE.is("one less", x.waiting(), 3 - i);
        }
    }

    private static void tickOf0To50() {
        ChangeFeed x = new ChangeFeed(2, 1, 1, 0);
        commitEmpty(x, 1);
        x.step(1);
        DUE.is("tick -1", x.tick(-1), BAD);
        DUE.is("tick 0", x.tick(0), 0);
        DUE.is("tick 51", x.tick(51), BAD);
        DUE.is("the least tick", x.tick(MIN), BAD);
        DUE.is("the largest tick", x.tick(MAX), BAD);
        DUE.is("nothing was sent", x.flight(), 1);
        DUE.is("tick 1", x.tick(1), 1);
        DUE.is("tick 50", x.tick(50), 50);

        ChangeFeed y = new ChangeFeed(2, 1, 20, 0);
        commitEmpty(y, 1);
        y.step(1);
        DUE.is("no tick", y.tick(51), BAD);
        DUE.is("no tick", y.tick(0), 0);
        DUE.is("19 ticks", y.tick(19), 0);
        DUE.is("20 ticks", y.tick(1), 1);
    }

    private static void tickWithAnEmptyQueue() {
        ChangeFeed x = new ChangeFeed(2, 1, 1, 0);
        DUE.is("nothing to send", x.tick(50), 0);
        commitEmpty(x, 1);
        x.step(1);
        storePacket(x, 0);
        DUE.is("it waits", x.tick(1), 1);
        x.deliver(0);
        DUE.is("it has left", x.tick(50), 0);
    }

    private static void deliverTheFirstAndTheLast() {
        ChangeFeed x = new ChangeFeed(2, 1, 1, 0);
        DUE.is("the channel is empty", x.deliver(0), false);
        commitEmpty(x, 4);
        x.step(100);
        x.tick(1);
        DUE.is("there is no packet 8", x.deliver(8), false);
        DUE.is("there is no packet -1", x.deliver(-1), false);
        DUE.is("the last of eight", x.deliver(7), true);
        DUE.is("seven", x.flight(), 7);
        DUE.is("there is no packet 7", x.deliver(7), false);
        DUE.is("the first", x.deliver(0), true);
        DUE.is("six", x.flight(), 6);
        packetIs(x, 0, 0, 0, 1, 0);
        packetIs(x, 5, 0, 0, 2, 1);
        DUE.is("the first one was staged", x.apply(), true);
        emptyChannel(x);
        DUE.is("the channel is empty", x.deliver(0), false);
    }

    private static void deliverAtPosition() {
        ChangeFeed x = new ChangeFeed(2, 1, 1, 0);
        commitEmpty(x, 3);
        x.step(100);
        x.tick(1);
        storePacket(x, 0);
        storePacket(x, 0);
        x.alter(5, false);
        x.alter(4, false);
        x.alter(1, true);
        packetIs(x, 1, 0, 0, 0, -1);
        packetIs(x, 2, 0, 0, 1, 0);
        DUE.is("at POSITION", x.deliver(2), true);
        packetIs(x, 4, 2, 0, 1, 0);
        DUE.is("not staged", x.apply(), false);
        DUE.is("below POSITION", x.deliver(1), true);
        packetIs(x, 4, 2, 0, 1, 0);
        DUE.is("not staged", x.apply(), false);
        DUE.is("above POSITION", x.deliver(0), true);
        DUE.is("no ACK", x.flight(), 4);
        packetIs(x, 1, 0, 0, 0, -1);
        DUE.is("below POSITION while one is staged", x.deliver(1), true);
        packetIs(x, 3, 2, 0, 1, 0);
        DUE.is("the staged one stays", x.apply(), true);
        DUE.is("the third", x.position(), 2);
    }

    private static void deliverWithAnotherBefore() {
        ChangeFeed x = new ChangeFeed(2, 1, 1, 0);
        commitEmpty(x, 3);
        x.step(100);
        x.tick(1);
        DUE.is("the third before the first", x.deliver(2), true);
        DUE.is("the second before the first", x.deliver(1), true);
        DUE.is("no ACK", x.flight(), 4);
        DUE.is("nothing is staged", x.apply(), false);
        storePacket(x, 0);
        x.alter(3, false);
        packetIs(x, 2, 0, 0, 2, 1);
        DUE.is("the third after the first", x.deliver(2), true);
        DUE.is("nothing is staged", x.apply(), false);
        DUE.is("the second after the first", x.deliver(1), true);
        DUE.is("the second is staged", x.apply(), true);
        DUE.is("the second", x.position(), 1);
    }

    private static void deliverAnAckAtTheEventsPosition() {
        for (int stored = 1; stored <= 4; stored++) {
            ChangeFeed x = new ChangeFeed(2, 1, 3, 0);
            commitEmpty(x, 4);
            x.step(100);
            for (int i = 0; i < stored; i++) {
                storePacket(x, 0);
            }
            packetIs(x, x.flight() - 1, 2, 0, stored - 1, 0);
            x.deliver(x.flight() - 1);
            DUE.is("those not above " + (stored - 1) + " leave", x.waiting(), 4 - stored);
            emptyChannel(x);
            DUE.is("the rest is sent again", x.tick(3), 4 - stored);
            if (stored < 4) {
                packetIs(x, 0, 0, 0, stored, stored - 1);
            }
        }
    }

    private static void deliverAnAckAndTheOthersKeepTheirTimes() {
        ChangeFeed x = new ChangeFeed(2, 1, 5, 0);
        commitEmpty(x, 3);
        for (int i = 0; i < 3; i++) {
            x.step(1);
            x.tick(1);
        }
        storePacket(x, 0);
        x.deliver(2);
        DUE.is("the first has left", x.waiting(), 2);
        DUE.is("the first would be sent", x.tick(2), 0);
        DUE.is("the second is sent", x.tick(1), 1);
        packetIs(x, 2, 0, 0, 1, 0);
        DUE.is("the third is sent", x.tick(1), 1);
        packetIs(x, 3, 0, 0, 2, 1);
    }

    private static void deliverAnAckToAnEmptyQueue() {
        ChangeFeed x = new ChangeFeed(2, 1, 3, 0);
        commitEmpty(x, 2);
        x.step(1);
        storePacket(x, 0);
        x.alter(0, true);
        x.alter(0, true);
        x.deliver(0);
        DUE.is("the queue is empty", x.waiting(), 0);
        DUE.is("the ACK once more", x.deliver(0), true);
        DUE.is("the queue is empty", x.waiting(), 0);
        x.step(1);
        DUE.is("an ACK below the event", x.deliver(0), true);
        DUE.is("the event stays", x.waiting(), 1);
    }

    private static void deliverOfAnotherEpoch() {
        ChangeFeed x = new ChangeFeed(2, 1, 3, 0);
        commitEmpty(x, 1);
        x.step(1);
        x.alter(0, true);
        storePacket(x, 0);
        x.crash(1);
        commitEmpty(x, 1);
        x.step(100);
        packetIs(x, 0, 0, 0, 0, -1);
        packetIs(x, 1, 2, 0, 0, 0);
        packetIs(x, 2, 0, 1, 1, 0);
        DUE.is("a stored event of another epoch", x.deliver(0), true);
        DUE.is("gets no ACK", x.flight(), 2);
        x.alter(1, true);
        x.alter(1, true);
        x.crash(1);
        x.step(100);
        DUE.is("the next event of another epoch", x.deliver(1), true);
        DUE.is("is not staged", x.apply(), false);
        x.deliver(3);
        DUE.is("that of this epoch is", x.apply(), true);
        packetIs(x, 3, 2, 2, 1, 0);
        x.crash(1);
        commitEmpty(x, 1);
        x.step(100);
        DUE.is("an ACK of another epoch", x.deliver(3), true);
        DUE.is("takes nothing from the queue", x.waiting(), 1);
    }

    private static void alterTheFirstAndTheLast() {
        for (boolean twice : new boolean[] {false, true}) {
            ChangeFeed x = new ChangeFeed(2, 1, 3, 0);
            DUE.is("the channel is empty", x.alter(0, twice), false);
            commitEmpty(x, 3);
            x.step(100);
            DUE.is("there is no packet -1", x.alter(-1, twice), false);
            DUE.is("there is no packet 3", x.alter(3, twice), false);
            DUE.is("the last", x.alter(2, twice), true);
            DUE.is("one more or one less", x.flight(), twice ? 4 : 2);
            DUE.is("the last", x.packet(x.flight() - 1, 2), twice ? 2 : 1);
            DUE.is("the first", x.alter(0, twice), true);
            DUE.is("one more or one less", x.flight(), twice ? 5 : 1);
            DUE.is("the first", x.packet(0, 2), twice ? 0 : 1);
            DUE.is("the last", x.packet(x.flight() - 1, 2), twice ? 0 : 1);
            DUE.is("nothing was delivered", x.apply(), false);
            DUE.is("all wait", x.waiting(), 3);
        }
    }

    private static void alterTwiceUpToEight() {
        ChangeFeed x = new ChangeFeed(2, 1, 3, 0);
        commitEmpty(x, 1);
        x.step(1);
        fillChannel(x, 0, 7);
        DUE.is("seven", x.alter(6, true), true);
        DUE.is("eight", x.flight(), 8);
        DUE.is("there are 8", x.alter(7, true), false);
        DUE.is("there are 8", x.alter(0, true), false);
        DUE.is("to lose one is no matter", x.alter(7, false), true);
        DUE.is("seven", x.alter(0, true), true);
        for (int i = 8; i > 0; i--) {
            DUE.is("each can be lost", x.alter(0, false), true);
        }
        DUE.is("none is left", x.alter(0, false), false);
    }

    private static void flightFrom0To8() {
        ChangeFeed x = new ChangeFeed(2, 1, 1, 0);
        DUE.is("none", x.flight(), 0);
        commitEmpty(x, 1);
        x.step(1);
        for (int i = 1; i <= 8; i++) {
            DUE.is("one more", x.flight(), i);
            x.tick(1);
        }
        DUE.is("no more than eight", x.flight(), 8);
        for (int i = 7; i >= 0; i--) {
            x.deliver(0);
            DUE.is("one less", x.flight(), i);
        }
    }

    private static void packetWords0To3() {
        ChangeFeed x = new ChangeFeed(4, 2, 3, 0);
        commitEmpty(x, 1);
        writeChunk(x);
        x.step(100);
        x.alter(0, true);
        storePacket(x, 2);
        int[][] words = {{0, 0, 0, -1}, {1, 0, 2, 0}, {2, 0, 0, 0}};
        for (int i = 0; i < 3; i++) {
            DUE.is("word -1", x.packet(i, -1), BAD);
            for (int w = 0; w < 4; w++) {
                DUE.is("packet " + i + ", word " + w, x.packet(i, w), words[i][w]);
            }
            DUE.is("word 4", x.packet(i, 4), BAD);
            DUE.is("the least word", x.packet(i, MIN), BAD);
            DUE.is("the largest word", x.packet(i, MAX), BAD);
        }
        DUE.is("packet -1", x.packet(-1, 0), BAD);
        DUE.is("packet 3", x.packet(3, 0), BAD);
        DUE.is("the least packet", x.packet(MIN, 3), BAD);
        DUE.is("the largest packet", x.packet(MAX, 3), BAD);
        fillChannel(x, 0, 8);
        DUE.is("packet 7", x.packet(7, 3), -1);
        DUE.is("packet 8", x.packet(8, 3), BAD);
    }

    private static void applyOnce() {
        ChangeFeed x = new ChangeFeed(2, 1, 3, 0);
        DUE.is("nothing is staged", x.apply(), false);
        DUE.is("no ACK", x.flight(), 0);
        commitPut(x, 0, 1, 1);
        x.step(100);
        DUE.is("not delivered", x.apply(), false);
        x.deliver(0);
        DUE.is("staged", x.apply(), true);
        DUE.is("an ACK", x.flight(), 1);
        DUE.is("nothing is staged any more", x.apply(), false);
        DUE.is("no other ACK", x.flight(), 1);
        DUE.is("POSITION is its position", x.position(), 1);
    }

    private static void storedOfTheFirstAndTheLastKey() {
        ChangeFeed x = new ChangeFeed(12, 6, 3, 0);
        storeChunk(x);
        storeChunk(x);
        DUE.is("key -1", x.stored(-1), NO_ROW);
        DUE.is("key 0", x.stored(0), 0);
        DUE.is("key 11", x.stored(11), 12884901998L);
        DUE.is("key 12", x.stored(12), NO_ROW);
        DUE.is("the least key", x.stored(MIN), NO_ROW);
        DUE.is("the largest key", x.stored(MAX), NO_ROW);
        commitRemove(x, 11);
        finishAll(x);
        DUE.is("key 11", x.stored(11), NO_ROW);
    }

    private static void viewOfGroups0To3() {
        ChangeFeed x = new ChangeFeed(12, 6, 3, 0);
        storeChunk(x);
        for (boolean sum : new boolean[] {false, true}) {
            DUE.is("group -1", x.view(-1, sum), 0);
            DUE.is("group 0", x.view(0, sum), sum ? 40 : 2);
            DUE.is("group 1", x.view(1, sum), sum ? 60 : 2);
            DUE.is("group 2", x.view(2, sum), sum ? 20 : 1);
            DUE.is("group 3", x.view(3, sum), sum ? 30 : 1);
            DUE.is("group 4", x.view(4, sum), 0);
            DUE.is("the least group", x.view(MIN, sum), 0);
            DUE.is("the largest group", x.view(MAX, sum), 0);
        }
    }

    private static void viewSumsAboveAndBelowInt() {
        ChangeFeed x = new ChangeFeed(12, 6, 3, MIN);
        x.begin();
        for (int k = 0; k < 12; k++) {
            x.put(0, k, 0, MAX);
        }
        x.end(0, true);
        finishAll(x);
        DUE.is("twelve of the largest", x.view(0, true), 12L * MAX);
        DUE.is("twelve", x.view(0, false), 12);
        x.begin();
        for (int k = 0; k < 12; k++) {
            x.put(1, k, 3, MIN);
        }
        x.end(1, true);
        finishAll(x);
        DUE.is("twelve of the least", x.view(3, true), 12L * MIN);
        DUE.is("twelve", x.view(3, false), 12);
        DUE.is("none is left", x.view(0, true), 0);
        DUE.is("none is left", x.view(0, false), 0);
    }

    private static void positionFromMinus1To159() {
        ChangeFeed x = filled(LOG, 0);
        DUE.is("nothing is stored", x.position(), -1);
        finishAll(x);
        DUE.is("the log's last position", x.position(), LOG - 1);

        ChangeFeed y = new ChangeFeed(2, 1, 3, 0);
        commitEmpty(y, 2);
        y.step(100);
        y.deliver(0);
        DUE.is("staged only", y.position(), -1);
        y.apply();
        DUE.is("the log's first position", y.position(), 0);
        storePacket(y, 0);
        DUE.is("the next", y.position(), 1);
    }

    private static void progressFrom0ToK() {
        ChangeFeed x = new ChangeFeed(1, 6, 3, 0);
        writeChunk(x);
        x.step(100);
        x.deliver(0);
        DUE.is("staged only", x.progress(), 0);
        x.apply();
        DUE.is("K, which is 1", x.progress(), 1);

        ChangeFeed y = new ChangeFeed(12, 1, 3, 0);
        for (int k = 0; k < 12; k++) {
            DUE.is("key by key", y.progress(), k);
            storeChunk(y);
        }
        DUE.is("K", y.progress(), 12);
        DUE.is("no more", y.snapshot(), BAD);
        DUE.is("K", y.progress(), 12);
    }
}
