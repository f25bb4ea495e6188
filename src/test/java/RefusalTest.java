import java.util.function.Supplier;
import java.util.function.ToLongFunction;

/**
 * A call that answers BAD, LOCKED, FULL, -1 or false changes nothing; when several of these would do, the one that
 * stands first in the method's comment is given. For each call: every cause alone, and the causes that can meet.
 */
public final class RefusalTest extends Checks {
    // In busy(): those that have ended, the one that would be begun next, and numbers that there never are.
    private static final int[] NOT_OPEN = {MIN, -2, -1, 3, 4, 5, 7, MAX};
    private static final int[] NO_KEYS = {MIN, -1, 12, MAX};
    private static final int[] NO_GROUPS = {MIN, -1, 4, MAX};
    private static final boolean[] BOTH = {false, true};

    public static void main(String[] args) {
        theStatesAreAsTold();
        begin();
        lockBad();
        lockLocked();
        putBad();
        putLocked();
        putFull();
        removeBad();
        removeLocked();
        removeNoRow();
        removeFull();
        end();
        row();
        crash();
        snapshotBadNoMoreKeys();
        snapshotBadHighNotRead();
        snapshotFull();
        step();
        tick();
        deliver();
        alter();
        packet();
        apply();
        stored();
        view();
        looks();
        DUE.finish();
    }

    private static void begin() {
        refused("2 begin, four open", RefusalTest::busy, x -> x.begin(), FULL);
        refused("2 begin, four open and no room", RefusalTest::busyNoRoom, x -> x.begin(), FULL);
        refused("2 begin, three open and no room", RefusalTest::threeOpenNoRoom, x -> x.begin(), FULL);
        refused("2 begin, none open and no room", RefusalTest::logFull, x -> x.begin(), FULL);
    }

    private static void lockBad() {
        for (int n : NOT_OPEN) {
            refused("3 lock, not open", RefusalTest::busy, x -> x.lock(n, 0), BAD);
            refused("3 lock, not open before locked", RefusalTest::busy, x -> x.lock(n, 1), BAD);
            refused("3 lock, neither open nor a key", RefusalTest::busy, x -> x.lock(n, 12), BAD);
        }
        for (int k : NO_KEYS) {
            refused("3 lock, no key", RefusalTest::busy, x -> x.lock(0, k), BAD);
        }
        refused("3 lock, nothing was ever begun", RefusalTest::fresh, x -> x.lock(0, 0), BAD);
    }

    private static void lockLocked() {
        refused("3 lock, put by another", RefusalTest::busy, x -> x.lock(1, 1), LOCKED);
        refused("3 lock, locked by another", RefusalTest::busy, x -> x.lock(1, 2), LOCKED);
        refused("3 lock, removed by another", RefusalTest::busy, x -> x.lock(6, 4), LOCKED);
        refused("3 lock, put by a younger one", RefusalTest::busy, x -> x.lock(0, 10), LOCKED);
        refused("3 lock, locked and no room", RefusalTest::busyNoRoom, x -> x.lock(1, 2), LOCKED);
    }

    private static void putBad() {
        for (int n : NOT_OPEN) {
            refused("4 put, not open", RefusalTest::busy, x -> x.put(n, 0, 0, 1), BAD);
            refused("4 put, not open before locked", RefusalTest::busy, x -> x.put(n, 1, 0, 1), BAD);
            refused("4 put, not open before full", RefusalTest::busyNoRoom, x -> x.put(n, 0, 0, 1), BAD);
        }
        for (int k : NO_KEYS) {
            refused("4 put, no key", RefusalTest::busy, x -> x.put(0, k, 0, 1), BAD);
            refused("4 put, no key before full", RefusalTest::busyNoRoom, x -> x.put(0, k, 0, 1), BAD);
        }
        for (int g : NO_GROUPS) {
            refused("4 put, no group", RefusalTest::busy, x -> x.put(0, 0, g, 1), BAD);
            refused("4 put, no group for its own key", RefusalTest::busy, x -> x.put(0, 1, g, 1), BAD);
            refused("4 put, no group before locked", RefusalTest::busy, x -> x.put(1, 1, g, 1), BAD);
            refused("4 put, no group before full", RefusalTest::busyNoRoom, x -> x.put(0, 0, g, 1), BAD);
            refused("4 put, no group before locked and full", RefusalTest::busyNoRoom, x -> x.put(1, 1, g, 1), BAD);
        }
        refused("4 put, not open, no key, no group", RefusalTest::busy, x -> x.put(7, 12, 4, 1), BAD);
        refused("4 put, nothing was ever begun", RefusalTest::fresh, x -> x.put(0, 0, 0, 1), BAD);
    }

    private static void putLocked() {
        for (int k : new int[] {1, 2, 4}) {
            refused("4 put, locked", RefusalTest::busy, x -> x.put(1, k, 0, 1), LOCKED);
            refused("4 put, locked before full", RefusalTest::busyNoRoom, x -> x.put(1, k, 0, 1), LOCKED);
        }
    }

    private static void putFull() {
        refused("4 put, full", RefusalTest::busyNoRoom, x -> x.put(0, 0, 0, 1), FULL);
        refused("4 put, full, a key that it has put", RefusalTest::busyNoRoom, x -> x.put(0, 1, 0, 1), FULL);
        refused("4 put, full, a key that it has locked", RefusalTest::busyNoRoom, x -> x.put(1, 3, 0, 1), FULL);
        refused("4 put, full, a key without a row", RefusalTest::busyNoRoom, x -> x.put(1, 9, 0, 1), FULL);
        refused("4 put, full, three open", RefusalTest::threeOpenNoRoom, x -> x.put(2, 11, 0, 1), FULL);
    }

    private static void removeBad() {
        for (int n : NOT_OPEN) {
            refused("5 remove, not open", RefusalTest::busy, x -> x.remove(n, 0), BAD);
            refused("5 remove, not open before locked", RefusalTest::busy, x -> x.remove(n, 1), BAD);
            refused("5 remove, not open before full", RefusalTest::busyNoRoom, x -> x.remove(n, 0), BAD);
        }
        for (int k : NO_KEYS) {
            refused("5 remove, no key", RefusalTest::busy, x -> x.remove(0, k), BAD);
            refused("5 remove, no key before full", RefusalTest::busyNoRoom, x -> x.remove(0, k), BAD);
        }
        refused("5 remove, neither open nor a key", RefusalTest::busy, x -> x.remove(7, 12), BAD);
        refused("5 remove, nothing was ever begun", RefusalTest::fresh, x -> x.remove(0, 0), BAD);
    }

    private static void removeLocked() {
        for (int k : new int[] {1, 2, 4}) {
            refused("5 remove, locked", RefusalTest::busy, x -> x.remove(1, k), LOCKED);
            refused("5 remove, locked before full", RefusalTest::busyNoRoom, x -> x.remove(1, k), LOCKED);
        }
        refused("5 remove, locked before no row", RefusalTest::busy, x -> x.remove(0, 5), LOCKED);
        refused("5 remove, locked before no row and full", RefusalTest::busyNoRoom, x -> x.remove(0, 5), LOCKED);
    }

    private static void removeNoRow() {
        refused("5 remove, removed by itself", RefusalTest::busy, x -> x.remove(0, 4), BAD);
        refused("5 remove, no row in the table", RefusalTest::busy, x -> x.remove(0, 9), BAD);
        refused("5 remove, no row though it has locked the key", RefusalTest::busy, x -> x.remove(1, 5), BAD);
        refused("5 remove, no row before full", RefusalTest::busyNoRoom, x -> x.remove(0, 4), BAD);
        refused("5 remove, no row before full", RefusalTest::busyNoRoom, x -> x.remove(0, 9), BAD);
        refused("5 remove, no row before full", RefusalTest::busyNoRoom, x -> x.remove(1, 5), BAD);
    }

    private static void removeFull() {
        refused("5 remove, full", RefusalTest::busyNoRoom, x -> x.remove(0, 0), FULL);
        refused("5 remove, full, a key that it has put", RefusalTest::busyNoRoom, x -> x.remove(0, 1), FULL);
        refused("5 remove, full, a key that it has locked", RefusalTest::busyNoRoom, x -> x.remove(1, 3), FULL);
        refused("5 remove, full, three open", RefusalTest::threeOpenNoRoom, x -> x.remove(2, 11), FULL);
    }

    private static void end() {
        for (boolean commit : BOTH) {
            for (int n : NOT_OPEN) {
                refused("6 end, not open", RefusalTest::busy, x -> x.end(n, commit), BAD);
            }
            refused("6 end, not open, no room", RefusalTest::busyNoRoom, x -> x.end(3, commit), BAD);
            refused("6 end, not open, the log is full", RefusalTest::logFull, x -> x.end(0, commit), BAD);
            refused("6 end, nothing was ever begun", RefusalTest::fresh, x -> x.end(0, commit), BAD);
        }
    }

    private static void row() {
        for (int n : new int[] {MIN, -2, 3, 4, 5, 7, MAX}) {
            refused("7 row, not open", RefusalTest::busy, x -> x.row(n, 0), NO_ROW);
            refused("7 row, neither open nor a key", RefusalTest::busy, x -> x.row(n, 12), NO_ROW);
        }
        for (int k : NO_KEYS) {
            refused("7 row, no key", RefusalTest::busy, x -> x.row(0, k), NO_ROW);
            refused("7 row, no key in the table", RefusalTest::busy, x -> x.row(-1, k), NO_ROW);
        }
        refused("7 row, it sees none", RefusalTest::busy, x -> x.row(0, 4), NO_ROW);
        refused("7 row, the table has none", RefusalTest::busy, x -> x.row(-1, 9), NO_ROW);
    }

    private static void crash() {
        for (int party : new int[] {MIN, -1, 3, 4, MAX}) {
            refused("8 crash, no party", RefusalTest::busy, x -> number(x.crash(party)), 0);
            refused("8 crash, no party", RefusalTest::highNotRead, x -> number(x.crash(party)), 0);
        }
    }

    private static void snapshotBadNoMoreKeys() {
        for (int keys : new int[] {3, 4, 5, 6}) {
            refused("9 snapshot, no more keys of " + keys, () -> allChunksRead(keys), x -> x.snapshot(), BAD);
            refused("9 snapshot, no more keys before full", () -> allChunksReadNoRoom(keys), x -> x.snapshot(), BAD);
            refused("9 snapshot, PROGRESS is K", () -> allChunksStored(keys), x -> x.snapshot(), BAD);
        }
    }

    private static void snapshotBadHighNotRead() {
        refused("9 snapshot, HIGH not read", RefusalTest::highNotRead, x -> x.snapshot(), BAD);
        refused("9 snapshot, HIGH not read before full", RefusalTest::highNotReadNoRoom, x -> x.snapshot(), BAD);
        refused("9 snapshot, HIGH cannot be read", RefusalTest::highCannotBeRead, x -> x.snapshot(), BAD);
    }

    private static void snapshotFull() {
        refused("9 snapshot, no room for a LOW", RefusalTest::logFull, x -> x.snapshot(), FULL);
        refused("9 snapshot, no room for a LOW", () -> filled(156, 4), x -> x.snapshot(), FULL);
        refused("9 snapshot, no room for a HIGH", RefusalTest::busyNoRoom, x -> x.snapshot(), FULL);
        refused("9 snapshot, no room for a HIGH", RefusalTest::threeOpenNoRoom, x -> x.snapshot(), FULL);
    }

    private static void step() {
        for (int n : new int[] {MIN, -1, 101, MAX}) {
            refused("10 step", RefusalTest::busy, x -> x.step(n), BAD);
            refused("10 step, an event to be emitted", RefusalTest::highNotRead, x -> x.step(n), BAD);
            refused("10 step, the queue is full", RefusalTest::highCannotBeRead, x -> x.step(n), BAD);
            refused("10 step, the log is empty", RefusalTest::fresh, x -> x.step(n), BAD);
        }
        refused("10 step(0)", RefusalTest::busy, x -> x.step(0), 0);
        refused("10 step, the entry cannot be read yet", RefusalTest::highCannotBeRead, x -> x.step(100), 0);
    }

    private static void tick() {
        for (int n : new int[] {MIN, -1, 51, MAX}) {
            refused("12 tick", RefusalTest::busy, x -> x.tick(n), BAD);
            refused("12 tick, the channel is full", RefusalTest::channelFull, x -> x.tick(n), BAD);
        }
        refused("12 tick(0)", RefusalTest::busy, x -> x.tick(0), 0);
    }

    private static void deliver() {
        for (int i : new int[] {MIN, -1, 3, 4, 8, MAX}) {
            refused("13 deliver, none such", RefusalTest::busy, x -> number(x.deliver(i)), 0);
        }
        for (int i : new int[] {MIN, -1, 8, MAX}) {
            refused("13 deliver, the channel is full", RefusalTest::channelFull, x -> number(x.deliver(i)), 0);
        }
        for (int i : new int[] {-1, 0, 1}) {
            refused("13 deliver, the channel is empty", RefusalTest::fresh, x -> number(x.deliver(i)), 0);
        }
    }

    private static void alter() {
        for (boolean twice : BOTH) {
            for (int i : new int[] {MIN, -1, 3, 4, 8, MAX}) {
                refused("14 alter, none such", RefusalTest::busy, x -> number(x.alter(i, twice)), 0);
            }
            for (int i : new int[] {MIN, -1, 8, MAX}) {
                refused("14 alter, none such of 8", RefusalTest::channelFull, x -> number(x.alter(i, twice)), 0);
            }
            refused("14 alter, the channel is empty", RefusalTest::fresh, x -> number(x.alter(0, twice)), 0);
        }
        for (int i = 0; i < 8; i++) {
            int one = i;
            refused("14 alter, there are 8", RefusalTest::channelFull, x -> number(x.alter(one, true)), 0);
        }
    }

    private static void packet() {
        for (int i : new int[] {MIN, -1, 3, 8, MAX}) {
            refused("16 packet, none such", RefusalTest::busy, x -> x.packet(i, 0), BAD);
            refused("16 packet, neither packet nor word", RefusalTest::busy, x -> x.packet(i, 4), BAD);
        }
        for (int w : new int[] {MIN, -1, 4, MAX}) {
            refused("16 packet, no such word", RefusalTest::busy, x -> x.packet(0, w), BAD);
            refused("16 packet, no such word", RefusalTest::busy, x -> x.packet(2, w), BAD);
        }
        refused("16 packet, the channel is empty", RefusalTest::fresh, x -> x.packet(0, 0), BAD);
        refused("16 packet, the channel is full", RefusalTest::channelFull, x -> x.packet(8, 0), BAD);
    }

    private static void apply() {
        refused("17 apply, nothing came", RefusalTest::fresh, x -> number(x.apply()), 0);
        refused("17 apply, stored already", () -> busyAnd(x -> number(x.apply())), x -> number(x.apply()), 0);
        refused("17 apply, the sink crashed", () -> busyAnd(x -> number(x.crash(2))), x -> number(x.apply()), 0);
        refused("17 apply, the pipeline crashed", () -> busyAnd(x -> number(x.crash(1))), x -> number(x.apply()), 0);
        refused("17 apply, the channel is full", RefusalTest::channelFull, x -> number(x.apply()), 0);
        refused("17 apply, an ACK came", RefusalTest::ackCame, x -> number(x.apply()), 0);
    }

    private static void stored() {
        for (int k : NO_KEYS) {
            refused("18 stored, no key", RefusalTest::busy, x -> x.stored(k), NO_ROW);
        }
        refused("18 stored, none", RefusalTest::busy, x -> x.stored(0), NO_ROW);
    }

    private static void view() {
        for (int g : NO_GROUPS) {
            refused("19 view, no group", RefusalTest::busy, x -> x.view(g, false), 0);
            refused("19 view, no group", RefusalTest::busy, x -> x.view(g, true), 0);
        }
    }

    /** What only looks changes nothing either. */
    private static void looks() {
        refused("7 row of the table", RefusalTest::busy, x -> x.row(-1, 1), row(1, 10));
        refused("7 row that it put", RefusalTest::busy, x -> x.row(0, 1), row(2, 100));
        refused("7 row of a key that nobody locked", RefusalTest::busy, x -> x.row(0, 11), row(3, 110));
        refused("11 waiting", RefusalTest::busy, x -> x.waiting(), 2);
        refused("15 flight", RefusalTest::busy, x -> x.flight(), 3);
        refused("16 packet", RefusalTest::busy, x -> x.packet(2, 2), 8);
        refused("18 stored", RefusalTest::busy, x -> x.stored(8), row(1, 40));
        refused("19 view, count", RefusalTest::busy, x -> x.view(1, false), 1);
        refused("19 view, sum", RefusalTest::busy, x -> x.view(1, true), 40);
        refused("20 position", RefusalTest::busy, x -> x.position(), 4);
        refused("21 progress", RefusalTest::busy, x -> x.progress(), 0);
    }

    private static void theStatesAreAsTold() {
        ChangeFeed x = busy();
        packetIs(x, 0, 0, 0, 8, 6);
        packetIs(x, 1, 0, 0, 6, 4);
        packetIs(x, 2, 0, 0, 8, 6);
        DUE.is("one is staged", x.apply(), true);
        DUE.is("the staged one", x.position(), 6);
        DUE.is("HIGH is next", x.snapshot(), 3);
        DUE.is("two entries are not read", x.step(1), 1);
        DUE.is("HIGH is emitted", x.step(100), 1);
        DUE.is("three wait", x.waiting(), 3);

        ChangeFeed y = busyNoRoom();
        DUE.is("four ends are free", y.end(1, true), 156);
        DUE.is("six is open", y.end(6, true), 157);
        DUE.is("two is open", y.end(2, true), 158);
        DUE.is("zero is open", y.end(0, true), 159);
    }

    /**
     * Open are 0, 1, 2 and 6; 3, 4 and 5 have ended. Transaction 0 has put key 1, locked key 2 and removed key 4; 1 has
     * locked the keys 3 and 5; 6 has put key 10. The table has no row for the keys 5 and 9. The first of three events is
     * stored; the second is staged; the second and the third wait, sent at different times; the channel holds the
     * third, the second and the third. A chunk work has selected and its LOW is read; one entry is not.
     */
    private static ChangeFeed busy() {
        ChangeFeed x = fresh();
        for (int n = 0; n < 4; n++) {
            x.begin();
        }
        x.put(0, 1, 2, 100);
        x.lock(0, 2);
        x.remove(3, 5);
        x.remove(3, 9);
        x.put(3, 8, 1, 40);
        x.end(3, true);
        x.lock(1, 3);
        x.lock(1, 5);
        x.step(100);
        x.tick(1);
        commitPut(x, 6, 3, 8);
        x.step(100);
        x.tick(1);
        commitPut(x, 7, 0, 70);
        x.step(100);
        storePacket(x, 0);
        x.deliver(2);
        x.alter(0, true);
        x.deliver(0);
        x.alter(0, true);
        x.snapshot();
        x.remove(0, 4);
        x.step(2);
        x.snapshot();
        x.begin();
        x.put(6, 10, 1, 5);
        return x;
    }

    private static ChangeFeed busyAnd(ToLongFunction<ChangeFeed> call) {
        ChangeFeed x = busy();
        DUE.is("done", call.applyAsLong(x), 1);
        return x;
    }

    /** As busy, but the only places that are free are those for the ends of the four that are open. */
    private static ChangeFeed busyNoRoom() {
        ChangeFeed x = busy();
        fillUp(x, 0);
        return x;
    }

    private static ChangeFeed threeOpenNoRoom() {
        ChangeFeed x = busyNoRoom();
        DUE.is("one ends", x.end(6, false), 156);
        return x;
    }

    private static ChangeFeed highNotRead() {
        ChangeFeed x = busy();
        DUE.is("high", x.snapshot(), 3);
        return x;
    }

    private static ChangeFeed highNotReadNoRoom() {
        ChangeFeed x = highNotRead();
        fillUp(x, 0);
        return x;
    }

    /** The queue has four events, the next entry is a HIGH. */
    private static ChangeFeed highCannotBeRead() {
        ChangeFeed x = fresh();
        commitEmpty(x, 4);
        writeChunk(x);
        DUE.is("up to the HIGH", x.step(5), 5);
        return x;
    }

    private static ChangeFeed channelFull() {
        ChangeFeed x = fresh();
        commitEmpty(x, 3);
        x.step(100);
        storePacket(x, 0);
        fillChannel(x, 2, 8);
        return x;
    }

    private static ChangeFeed ackCame() {
        ChangeFeed x = fresh();
        commitEmpty(x, 2);
        x.step(100);
        storePacket(x, 0);
        DUE.is("an ACK", x.packet(1, 0), 2);
        x.deliver(1);
        return x;
    }

    /** The chunks have three keys. */
    private static ChangeFeed allChunksRead(int keys) {
        ChangeFeed x = new ChangeFeed(keys, 3, 4, 0);
        for (int k = 0; k < keys; k += 3) {
            writeChunk(x);
            x.step(100);
        }
        return x;
    }

    private static ChangeFeed allChunksReadNoRoom(int keys) {
        ChangeFeed x = allChunksRead(keys);
        fillUp(x, x.begin());
        return x;
    }

    private static ChangeFeed allChunksStored(int keys) {
        ChangeFeed x = allChunksRead(keys);
        finishAll(x);
        x.crash(1);
        return x;
    }

    private static ChangeFeed fresh() {
        return new ChangeFeed(12, 3, 4, 0);
    }

    private static ChangeFeed logFull() {
        return filled(160, 0);
    }

    private static void fillUp(ChangeFeed x, int n) {
        int written = 0;
        while (written < 160 && x.put(n, 1, 2, 100) == 0) {
            written++;
        }
        DUE.is("the log becomes full", written < 160, true);
    }

    private static void refused(String what, Supplier<ChangeFeed> made, ToLongFunction<ChangeFeed> call, long want) {
        Twins.refused(DUE, what, made, call, want);
    }

    private static long number(boolean answer) {
        return answer ? 1 : 0;
    }
}
