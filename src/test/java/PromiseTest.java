/** One method for each promise of the document: ordinary inputs, the edges that it names, wrong inputs. */
public final class PromiseTest extends Checks {
    private static final int[] FAR = {Integer.MIN_VALUE, -2, -1, 4, 5, 12, 13, 160, 1000, Integer.MAX_VALUE};

    public static void main(String[] args) {
        promise1Keys();
        promise1ChunkTimeoutLeast();
        promise2Begin();
        promise2BeginRoom();
        promise3Lock();
        promise4Put();
        promise4PutRoom();
        promise5Remove();
        promise5RemoveRoom();
        promise6End();
        promise7Row();
        promise8CrashSource();
        promise8CrashPipeline();
        promise8CrashPipelineNext();
        promise8CrashPipelineMidChunk();
        promise8CrashSink();
        promise9Snapshot();
        promise9SnapshotRoom();
        promise9SelectsWhatIsCommitted();
        promise10Step();
        promise10StepWaitsForTheQueue();
        promise10StepStrikes();
        promise10StepBearsWhatIsNotStruck();
        promise10StepKeepsTheRowsOfWaitingChunks();
        promise11Waiting();
        promise12Tick();
        promise12TickSendsIntoAFullChannel();
        promise13Deliver();
        promise13DeliverAck();
        promise13DeliverAckKeepsTheTimes();
        promise13DeliverOldEpoch();
        promise14Alter();
        promise15Flight();
        promise16Packet();
        promise17Apply();
        promise17ApplyIntoAFullChannel();
        promise17ApplyOrderAndLeast();
        promise17ApplyChunk();
        promise18Stored();
        promise19View();
        promise20Position();
        promise21Progress();
        noCallThrows();
        DUE.finish();
    }

    private static void promise1Keys() {
        int[][] keysAndCount = {{Integer.MIN_VALUE, 1}, {-1, 1}, {0, 1}, {1, 1}, {2, 2}, {11, 11}, {12, 12}, {13, 12},
                {Integer.MAX_VALUE, 12}};
        for (int[] pair : keysAndCount) {
            ChangeFeed x = new ChangeFeed(pair[0], 1, 1, 0);
            for (int k = 0; k < 14; k++) {
                DUE.is("1 keys " + pair[0] + " row(-1, " + k + ")", x.row(-1, k),
                        k < pair[1] ? row(k % 4, 10 * k) : NO_ROW);
                DUE.is("1 stored(" + k + ")", x.stored(k), NO_ROW);
            }
        }
        ChangeFeed x = new ChangeFeed(12, 6, 5, 0);
        DUE.is("1 position", x.position(), -1);
        DUE.is("1 progress", x.progress(), 0);
        DUE.is("1 waiting", x.waiting(), 0);
        DUE.is("1 flight", x.flight(), 0);
        DUE.is("1 apply", x.apply(), false);
        DUE.is("1 step", x.step(100), 0);
        DUE.is("1 tick", x.tick(50), 0);
    }

    private static void promise1ChunkTimeoutLeast() {
        int[][] chunkAndProgress = {{Integer.MIN_VALUE, 1}, {0, 1}, {1, 1}, {2, 2}, {6, 6}, {7, 6}, {Integer.MAX_VALUE, 6}};
        for (int[] pair : chunkAndProgress) {
            ChangeFeed x = new ChangeFeed(12, pair[0], 1, 0);
            storeChunk(x);
            DUE.is("1 chunk " + pair[0] + " progress", x.progress(), pair[1]);
            DUE.is("1 last stored", x.stored(pair[1] - 1), x.row(-1, pair[1] - 1));
            DUE.is("1 first not stored", x.stored(pair[1]), NO_ROW);
        }
        int[][] timeoutAndTicks = {{Integer.MIN_VALUE, 1}, {0, 1}, {1, 1}, {2, 2}, {19, 19}, {20, 20}, {21, 20},
                {Integer.MAX_VALUE, 20}};
        for (int[] pair : timeoutAndTicks) {
            ChangeFeed x = new ChangeFeed(2, 1, pair[0], 0);
            commitPut(x, 0, 0, 1);
            x.step(9);
            DUE.is("1 timeout " + pair[0] + " too early", x.tick(pair[1] - 1), 0);
            DUE.is("1 timeout " + pair[0] + " now", x.tick(1), 1);
        }
        int[] leasts = {Integer.MIN_VALUE, -5, 0, 10, Integer.MAX_VALUE};
        for (int least : leasts) {
            ChangeFeed x = new ChangeFeed(12, 6, 1, least);
            storeChunk(x);
            storeChunk(x);
            for (int k = 0; k < 12; k++) {
                DUE.is("1 least " + least + " stored(" + k + ")", x.stored(k),
                        10 * k < least ? NO_ROW : row(k % 4, 10 * k));
            }
        }
    }

    private static void promise2Begin() {
        ChangeFeed x = new ChangeFeed(4, 2, 3, 0);
        for (int n = 0; n < 4; n++) {
            DUE.is("2 begin", x.begin(), n);
        }
        DUE.is("2 begin, four open", x.begin(), FULL);
        DUE.is("2 begin, four open", x.begin(), FULL);
        DUE.is("2 end", x.end(2, true), 0);
        DUE.is("2 begin, a number is used once", x.begin(), 4);
        DUE.is("2 begin, four open", x.begin(), FULL);
        DUE.is("2 the others are open", x.end(0, false), 1);
        DUE.is("2 begin writes nothing", x.step(100), 2);
    }

    private static void promise2BeginRoom() {
        ChangeFeed x = new ChangeFeed(4, 2, 3, 0);
        x.begin();
        fillLog(x, 0, 157);
        DUE.is("2 begin, three free for two open", x.begin(), 1);
        DUE.is("2 begin, three free for three open", x.begin(), 2);
        DUE.is("2 begin, three free for four open", x.begin(), FULL);
        DUE.is("2 end", x.end(0, true), 157);
        DUE.is("2 begin, two free for three open", x.begin(), FULL);
        DUE.is("2 end", x.end(1, true), 158);
        DUE.is("2 end", x.end(2, true), 159);
        DUE.is("2 begin, the log is full", x.begin(), FULL);

        ChangeFeed y = new ChangeFeed(4, 2, 3, 0);
        for (int n = 0; n < 160; n++) {
            DUE.is("2 begin", y.begin(), n);
            DUE.is("2 end", y.end(n, n % 2 == 0), n);
        }
        DUE.is("2 begin, the log is full", y.begin(), FULL);
    }

    private static void promise3Lock() {
        ChangeFeed x = new ChangeFeed(3, 2, 3, 0);
        DUE.is("3 not open", x.lock(0, 0), BAD);
        x.begin();
        x.begin();
        DUE.is("3 lock", x.lock(0, 2), 0);
        DUE.is("3 lock again", x.lock(0, 2), 0);
        DUE.is("3 another has it", x.lock(1, 2), LOCKED);
        DUE.is("3 another key", x.lock(1, 1), 0);
        DUE.is("3 no key before locked", x.lock(1, 3), BAD);
        DUE.is("3 no key", x.lock(1, -1), BAD);
        for (int n : new int[] {Integer.MIN_VALUE, -1, 2, 3, Integer.MAX_VALUE}) {
            DUE.is("3 not open, though locked", x.lock(n, 2), BAD);
        }
        for (int k : FAR) {
            DUE.is("3 no such key", x.lock(0, k), BAD);
        }
        DUE.is("3 end", x.end(0, true), 0);
        DUE.is("3 ended", x.lock(0, 0), BAD);
        DUE.is("3 loosened", x.lock(1, 2), 0);
        DUE.is("3 lock writes nothing", x.step(100), 1);
        DUE.is("3 lock changes no row", x.row(1, 2), row(2, 20));
    }

    private static void promise4Put() {
        ChangeFeed x = new ChangeFeed(3, 2, 3, 0);
        DUE.is("4 not open", x.put(0, 0, 0, 0), BAD);
        x.begin();
        x.begin();
        DUE.is("4 put", x.put(0, 1, 3, -7), 0);
        DUE.is("4 seen by it", x.row(0, 1), row(3, -7));
        DUE.is("4 not seen by another", x.row(1, 1), row(1, 10));
        DUE.is("4 not in the table", x.row(-1, 1), row(1, 10));
        DUE.is("4 put locks", x.lock(1, 1), LOCKED);
        DUE.is("4 another has locked it", x.put(1, 1, 0, 0), LOCKED);
        DUE.is("4 no such group before locked", x.put(1, 1, 4, 0), BAD);
        DUE.is("4 no such group", x.put(0, 1, -1, 0), BAD);
        DUE.is("4 no such group", x.put(0, 1, 4, 0), BAD);
        for (int k : new int[] {Integer.MIN_VALUE, -1, 3, Integer.MAX_VALUE}) {
            DUE.is("4 no such key", x.put(0, k, 0, 0), BAD);
        }
        for (int n : new int[] {Integer.MIN_VALUE, -1, 2, Integer.MAX_VALUE}) {
            DUE.is("4 not open", x.put(n, 0, 0, 0), BAD);
        }
        DUE.is("4 put again", x.put(0, 1, 0, Integer.MIN_VALUE), 0);
        DUE.is("4 the last one is seen", x.row(0, 1), 2147483648L);
        DUE.is("4 refused puts lock nothing", x.lock(1, 0), 0);
        DUE.is("4 two entries", x.end(0, true), 2);
        DUE.is("4 in the table", x.row(-1, 1), 2147483648L);
        DUE.is("4 largest row", x.put(1, 1, 3, -1), 0);
        DUE.is("4 largest row", x.row(1, 1), 17179869183L);
    }

    private static void promise4PutRoom() {
        ChangeFeed x = new ChangeFeed(3, 2, 3, 0);
        x.begin();
        x.begin();
        fillLog(x, 0, 157);
        DUE.is("4 two places are left for two open", x.put(0, 0, 0, 5), 0);
        DUE.is("4 one place would be left", x.put(0, 0, 0, 6), FULL);
        DUE.is("4 nothing was put", x.row(0, 0), 5);
        DUE.is("4 full", x.put(1, 1, 0, 6), FULL);
        DUE.is("4 full locks nothing", x.lock(0, 1), 0);
        DUE.is("4 bad before full", x.put(0, 3, 0, 6), BAD);
        DUE.is("4 locked before full", x.put(1, 0, 0, 6), LOCKED);
        DUE.is("4 end", x.end(0, true), 158);
        DUE.is("4 full, one free for one open", x.put(1, 1, 0, 6), FULL);
        DUE.is("4 end", x.end(1, true), 159);
    }

    private static void promise5Remove() {
        ChangeFeed x = new ChangeFeed(3, 2, 3, 0);
        DUE.is("5 not open", x.remove(0, 0), BAD);
        x.begin();
        x.begin();
        DUE.is("5 remove", x.remove(0, 1), 0);
        DUE.is("5 seen by it", x.row(0, 1), NO_ROW);
        DUE.is("5 not seen by another", x.row(1, 1), row(1, 10));
        DUE.is("5 in the table", x.row(-1, 1), row(1, 10));
        DUE.is("5 remove locks", x.lock(1, 1), LOCKED);
        DUE.is("5 another has locked it", x.remove(1, 1), LOCKED);
        DUE.is("5 it sees no row", x.remove(0, 1), BAD);
        DUE.is("5 put again", x.put(0, 1, 0, 3), 0);
        DUE.is("5 it sees a row again", x.remove(0, 1), 0);
        for (int k : new int[] {Integer.MIN_VALUE, -1, 3, Integer.MAX_VALUE}) {
            DUE.is("5 no such key", x.remove(0, k), BAD);
        }
        for (int n : new int[] {Integer.MIN_VALUE, -1, 2, Integer.MAX_VALUE}) {
            DUE.is("5 not open", x.remove(n, 0), BAD);
        }
        DUE.is("5 three entries", x.end(0, true), 3);
        DUE.is("5 not in the table", x.row(-1, 1), NO_ROW);
        DUE.is("5 no row there", x.remove(1, 1), BAD);
        DUE.is("5 refused removes lock nothing", x.begin(), 2);
        DUE.is("5 refused removes lock nothing", x.lock(2, 1), 0);
        DUE.is("5 locked before no row", x.remove(1, 1), LOCKED);
        DUE.is("5 refused removes write nothing", x.end(1, true), 4);
    }

    private static void promise5RemoveRoom() {
        ChangeFeed x = new ChangeFeed(3, 2, 3, 0);
        x.begin();
        x.begin();
        x.remove(0, 1);
        fillLog(x, 0, 156);
        DUE.is("5 room", x.remove(0, 0), 0);
        DUE.is("5 full", x.remove(0, 2), FULL);
        DUE.is("5 nothing was removed", x.row(0, 2), row(2, 20));
        DUE.is("5 full locks nothing", x.lock(1, 2), 0);
        DUE.is("5 no row before full", x.remove(0, 1), BAD);
        DUE.is("5 locked before full", x.remove(1, 0), LOCKED);
        DUE.is("5 no key before full", x.remove(1, 3), BAD);
    }

    private static void promise6End() {
        ChangeFeed x = new ChangeFeed(4, 2, 3, 0);
        for (int n : FAR) {
            DUE.is("6 not open", x.end(n, true), BAD);
        }
        x.begin();
        x.begin();
        x.put(0, 0, 1, 1);
        x.remove(0, 1);
        x.lock(0, 2);
        x.put(1, 3, 2, 2);
        DUE.is("6 abort", x.end(1, false), 3);
        DUE.is("6 nothing is in the table", x.row(-1, 3), row(3, 30));
        DUE.is("6 commit", x.end(0, true), 4);
        DUE.is("6 put is in the table", x.row(-1, 0), row(1, 1));
        DUE.is("6 remove is in the table", x.row(-1, 1), NO_ROW);
        DUE.is("6 lock changed nothing", x.row(-1, 2), row(2, 20));
        DUE.is("6 ended", x.end(0, true), BAD);
        DUE.is("6 ended", x.end(1, false), BAD);
        DUE.is("6 begin", x.begin(), 2);
        for (int k = 0; k < 4; k++) {
            DUE.is("6 all locks are loosened", x.lock(2, k), 0);
        }
        DUE.is("6 a commit of nothing", x.end(2, true), 5);
        DUE.is("6 the commits are events", x.step(100), 6);
        DUE.is("6 an abort is none", x.waiting(), 2);
        DUE.is("6 begin", x.begin(), 3);
        DUE.is("6 an aborted change is forgotten", x.lock(3, 3), 0);
        DUE.is("6 an aborted change is forgotten", x.row(3, 3), row(3, 30));
        DUE.is("6 end", x.end(3, true), 6);
        DUE.is("6 an aborted change is forgotten", x.row(-1, 3), row(3, 30));
    }

    private static void promise7Row() {
        ChangeFeed x = new ChangeFeed(4, 2, 3, 0);
        DUE.is("7 table", x.row(-1, 3), 12884901918L);
        DUE.is("7 not open", x.row(0, 3), NO_ROW);
        x.begin();
        x.begin();
        DUE.is("7 seen without a lock", x.row(0, 3), 12884901918L);
        DUE.is("7 no lock is taken", x.lock(1, 3), 0);
        DUE.is("7 seen though another locked it", x.row(0, 3), 12884901918L);
        x.put(1, 3, 0, -1);
        DUE.is("7 a negative amount", x.row(1, 3), 4294967295L);
        DUE.is("7 what the table has", x.row(0, 3), 12884901918L);
        x.end(1, true);
        DUE.is("7 the table changed", x.row(0, 3), 4294967295L);
        DUE.is("7 ended", x.row(1, 3), NO_ROW);
        x.remove(0, 2);
        DUE.is("7 removed", x.row(0, 2), NO_ROW);
        for (int k : FAR) {
            DUE.is("7 no such key in the table", x.row(-1, k), NO_ROW);
            DUE.is("7 no such key", x.row(0, k), NO_ROW);
        }
        for (int n : new int[] {Integer.MIN_VALUE, -2, 1, 2, Integer.MAX_VALUE}) {
            DUE.is("7 no such transaction", x.row(n, 0), NO_ROW);
        }
    }

    private static void promise8CrashSource() {
        ChangeFeed x = new ChangeFeed(4, 2, 3, 0);
        DUE.is("8 no such party", x.crash(-1), false);
        DUE.is("8 no such party", x.crash(3), false);
        DUE.is("8 no such party", x.crash(Integer.MAX_VALUE), false);
        DUE.is("8 no such party", x.crash(Integer.MIN_VALUE), false);
        DUE.is("8 nothing is open", x.crash(0), true);
        DUE.is("8 nothing is written", x.step(9), 0);
        for (int n = 0; n < 4; n++) {
            x.begin();
        }
        x.end(0, true);
        x.begin();
        x.put(4, 0, 1, 1);
        x.remove(2, 3);
        x.lock(3, 1);
        DUE.is("8 source", x.crash(0), true);
        for (int n = 0; n < 5; n++) {
            DUE.is("8 ended", x.end(n, true), BAD);
        }
        DUE.is("8 four aborts", x.step(100), 7);
        DUE.is("8 aborts are no events", x.waiting(), 1);
        DUE.is("8 the table stays", x.row(-1, 0), row(0, 0));
        DUE.is("8 the table stays", x.row(-1, 3), row(3, 30));
        DUE.is("8 the numbers go on", x.begin(), 5);
        for (int k = 0; k < 4; k++) {
            DUE.is("8 locks are loosened", x.lock(5, k), 0);
            DUE.is("8 changes are forgotten", x.row(5, k), row(k, 10 * k));
        }
        DUE.is("8 the next position", x.end(5, true), 7);
    }

    private static void promise8CrashPipeline() {
        ChangeFeed x = new ChangeFeed(4, 1, 3, 0);
        commitPut(x, 0, 0, 1);
        commitPut(x, 1, 0, 2);
        commitPut(x, 2, 0, 3);
        x.step(100);
        x.deliver(0);
        x.apply();
        x.deliver(0);
        DUE.is("8 position", x.position(), 1);
        DUE.is("8 pipeline", x.crash(1), true);
        DUE.is("8 the queue is empty", x.waiting(), 0);
        DUE.is("8 the channel stays", x.flight(), 2);
        DUE.is("8 what is staged is forgotten", x.apply(), false);
        DUE.is("8 nothing is sent again", x.tick(9), 0);
        DUE.is("8 reads from 0", x.step(100), 6);
        DUE.is("8 above FROM alone", x.waiting(), 2);
        packetIs(x, 2, 0, 1, 3, 1);
        packetIs(x, 3, 0, 1, 5, 3);
        DUE.is("8 the ACK of the old epoch", x.packet(1, 1), 0);
        x.deliver(2);
        x.apply();
        x.crash(1);
        x.crash(1);
        x.step(100);
        packetIs(x, x.flight() - 1, 0, 3, 5, 3);
    }

    private static void promise8CrashPipelineNext() {
        ChangeFeed x = new ChangeFeed(4, 1, 3, 0);
        storeChunk(x);
        x.snapshot();
        x.snapshot();
        x.snapshot();
        x.step(9);
        DUE.is("8 the chunk of key 2 begins", x.snapshot(), 1);
        x.crash(1);
        DUE.is("8 progress", x.progress(), 1);
        storeChunk(x);
        DUE.is("8 NEXT was PROGRESS", x.stored(1), row(1, 10));
        DUE.is("8 NEXT was PROGRESS", x.stored(2), NO_ROW);
        DUE.is("8 progress", x.progress(), 2);
    }

    private static void promise8CrashPipelineMidChunk() {
        ChangeFeed x = new ChangeFeed(2, 2, 3, 0);
        x.snapshot();
        x.snapshot();
        x.snapshot();
        DUE.is("8 the HIGH is not read", x.snapshot(), BAD);
        x.crash(1);
        DUE.is("8 a new chunk work begins", x.snapshot(), 1);
        DUE.is("8 old LOW and HIGH do nothing", x.step(100), 3);
        DUE.is("8 no event", x.waiting(), 0);
        DUE.is("8 select", x.snapshot(), 2);
        DUE.is("8 high", x.snapshot(), 3);
        DUE.is("8 the new HIGH", x.step(100), 1);
        packetIs(x, 0, 1, 1, 3, -1);
    }

    private static void promise8CrashSink() {
        ChangeFeed x = new ChangeFeed(2, 1, 2, 0);
        commitPut(x, 0, 1, 1);
        x.step(9);
        x.deliver(0);
        DUE.is("8 sink", x.crash(2), true);
        DUE.is("8 what is staged is forgotten", x.apply(), false);
        DUE.is("8 the queue stays", x.waiting(), 1);
        DUE.is("8 sent again", x.tick(2), 1);
        DUE.is("8 the epoch stays", x.packet(0, 1), 0);
        x.deliver(0);
        DUE.is("8 stored in the end", x.apply(), true);
        DUE.is("8 stored rows stay", x.crash(2), true);
        DUE.is("8 stored rows stay", x.stored(0), row(1, 1));
        DUE.is("8 position stays", x.position(), 1);
    }

    private static void promise9Snapshot() {
        ChangeFeed x = new ChangeFeed(3, 2, 3, 0);
        DUE.is("9 low", x.snapshot(), 1);
        DUE.is("9 select, the LOW need not be read", x.snapshot(), 2);
        DUE.is("9 high", x.snapshot(), 3);
        DUE.is("9 HIGH not read yet", x.snapshot(), BAD);
        DUE.is("9 LOW is read", x.step(1), 1);
        DUE.is("9 HIGH not read yet", x.snapshot(), BAD);
        DUE.is("9 HIGH is read", x.step(9), 1);
        DUE.is("9 the next chunk", x.snapshot(), 1);
        DUE.is("9 select past the last key", x.snapshot(), 2);
        DUE.is("9 high", x.snapshot(), 3);
        DUE.is("9 read", x.step(9), 2);
        DUE.is("9 no more keys", x.snapshot(), BAD);
        DUE.is("9 two events", x.waiting(), 2);
        packetIs(x, 0, 1, 0, 1, -1);
        packetIs(x, 1, 1, 0, 3, 1);
        finishAll(x);
        DUE.is("9 progress", x.progress(), 3);
        for (int k = 0; k < 3; k++) {
            DUE.is("9 stored", x.stored(k), row(k, 10 * k));
        }
        x.crash(1);
        DUE.is("9 PROGRESS is K", x.snapshot(), BAD);
    }

    private static void promise9SnapshotRoom() {
        ChangeFeed x = new ChangeFeed(2, 1, 3, 0);
        x.begin();
        fillLog(x, 0, 159);
        DUE.is("9 no room for a LOW", x.snapshot(), FULL);
        x.end(0, true);
        DUE.is("9 no room for a LOW", x.snapshot(), FULL);

        ChangeFeed y = new ChangeFeed(2, 1, 3, 0);
        y.begin();
        fillLog(y, 0, 158);
        DUE.is("9 room for a LOW", y.snapshot(), 1);
        DUE.is("9 a select needs no room", y.snapshot(), 2);
        DUE.is("9 no room for a HIGH", y.snapshot(), FULL);
        DUE.is("9 no room for a HIGH", y.snapshot(), FULL);
        DUE.is("9 the place is there for the end", y.end(0, true), 159);

        ChangeFeed z = new ChangeFeed(2, 2, 3, 0);
        storeChunk(z);
        z.begin();
        fillLog(z, 0, 157);
        DUE.is("9 bad before full", z.snapshot(), BAD);
    }

    private static void promise9SelectsWhatIsCommitted() {
        ChangeFeed x = new ChangeFeed(2, 2, 3, 0);
        x.begin();
        x.put(0, 0, 1, 5);
        x.snapshot();
        x.snapshot();
        x.snapshot();
        x.end(0, true);
        finishAll(x);
        DUE.is("9 the event of the commit came later", x.position(), 3);
        DUE.is("9 stored", x.stored(0), row(1, 5));

        ChangeFeed y = new ChangeFeed(2, 2, 3, 0);
        y.begin();
        y.put(0, 0, 1, 5);
        y.snapshot();
        y.snapshot();
        y.snapshot();
        finishAll(y);
        DUE.is("9 not what is open", y.stored(0), row(0, 0));
        DUE.is("9 the rest", y.stored(1), row(1, 10));

        ChangeFeed z = new ChangeFeed(2, 2, 3, 0);
        commitPut(z, 0, 1, 5);
        z.step(9);
        z.snapshot();
        commitPut(z, 1, 2, 6);
        z.snapshot();
        commitPut(z, 0, 3, 7);
        z.snapshot();
        z.step(1);
        z.alter(0, false);
        z.crash(1);
        storeChunk(z);
        DUE.is("9 the table when it selects", z.stored(0), row(3, 7));
        DUE.is("9 the table when it selects", z.stored(1), row(2, 6));
    }

    private static void promise10Step() {
        ChangeFeed x = new ChangeFeed(4, 2, 3, 0);
        for (int n : new int[] {Integer.MIN_VALUE, -1, 101, Integer.MAX_VALUE}) {
            DUE.is("10 bad", x.step(n), BAD);
        }
        DUE.is("10 nothing there", x.step(100), 0);
        x.begin();
        fillLog(x, 0, 120);
        x.end(0, true);
        DUE.is("10 bad reads nothing", x.step(101), BAD);
        DUE.is("10 none", x.step(0), 0);
        DUE.is("10 one", x.step(1), 1);
        DUE.is("10 hundred", x.step(100), 100);
        DUE.is("10 no event yet", x.waiting(), 0);
        DUE.is("10 fewer", x.step(100), 20);
        DUE.is("10 an event", x.waiting(), 1);
        packetIs(x, 0, 0, 0, 120, -1);
        DUE.is("10 no more", x.step(100), 0);
    }

    private static void promise10StepWaitsForTheQueue() {
        ChangeFeed x = new ChangeFeed(4, 2, 3, 0);
        for (int k = 0; k < 4; k++) {
            commitPut(x, k, 0, k);
        }
        x.begin();
        x.end(4, false);
        x.snapshot();
        x.snapshot();
        x.snapshot();
        DUE.is("10 reads on to the HIGH", x.step(100), 10);
        DUE.is("10 four wait", x.waiting(), 4);
        DUE.is("10 the HIGH waits", x.step(100), 0);
        DUE.is("10 the HIGH waits", x.snapshot(), BAD);
        x.deliver(0);
        x.apply();
        DUE.is("10 the ACK is not delivered", x.step(1), 0);
        x.deliver(x.flight() - 1);
        DUE.is("10 a place is free", x.waiting(), 3);
        DUE.is("10 the HIGH is read", x.step(100), 1);
        DUE.is("10 four wait", x.waiting(), 4);
        packetIs(x, x.flight() - 1, 1, 0, 10, 7);
        commitPut(x, 0, 0, 9);
        DUE.is("10 a PUT is read, a COMMIT waits", x.step(100), 1);
    }

    private static void promise10StepStrikes() {
        ChangeFeed x = new ChangeFeed(6, 6, 3, 0);
        x.begin();
        x.put(0, 0, 1, 100);
        x.lock(0, 5);
        x.snapshot();
        x.step(9);
        x.begin();
        x.remove(1, 1);
        x.begin();
        x.put(2, 3, 1, 300);
        x.snapshot();
        x.end(0, true);
        x.end(1, true);
        x.end(2, false);
        x.snapshot();
        x.step(100);
        DUE.is("10 three events", x.flight(), 3);
        finishAll(x);
        DUE.is("10 a put before the LOW is struck", x.stored(0), row(1, 100));
        DUE.is("10 a removed key is struck", x.stored(1), NO_ROW);
        DUE.is("10 the rest is set", x.stored(2), row(2, 20));
        DUE.is("10 an abort strikes nothing", x.stored(3), row(3, 30));
        DUE.is("10 a lock strikes nothing", x.stored(5), row(1, 50));
    }

    private static void promise10StepBearsWhatIsNotStruck() {
        // The commit stands before the LOW; the open remove strikes nothing.
        ChangeFeed x = new ChangeFeed(2, 2, 3, 0);
        commitPut(x, 0, 1, 5);
        x.snapshot();
        x.snapshot();
        x.begin();
        x.remove(1, 1);
        x.snapshot();
        finishAll(x);
        DUE.is("10 committed before the LOW", x.stored(0), row(1, 5));
        DUE.is("10 not committed", x.stored(1), row(1, 10));

        // What strikes in the first chunk work leaves the second one's rows alone, and the other way round.
        ChangeFeed y = new ChangeFeed(4, 2, 3, 0);
        y.snapshot();
        y.step(9);
        y.snapshot();
        commitPut(y, 0, 1, 7);
        y.snapshot();
        y.step(9);
        y.snapshot();
        y.step(9);
        y.snapshot();
        commitPut(y, 1, 2, 8);
        commitPut(y, 3, 2, 9);
        y.snapshot();
        y.deliver(0);
        y.apply();
        y.deliver(0);
        y.apply();
        DUE.is("10 struck in the first chunk", y.stored(0), row(1, 7));
        DUE.is("10 not struck in the first chunk", y.stored(1), row(1, 10));
        finishAll(y);
        DUE.is("10 put later", y.stored(1), row(2, 8));
        DUE.is("10 not struck in the second chunk", y.stored(2), row(2, 20));
        DUE.is("10 struck in the second chunk", y.stored(3), row(2, 9));
    }

    private static void promise10StepKeepsTheRowsOfWaitingChunks() {
        // Two HIGHs wait; a commit that is read after them takes nothing from their rows.
        ChangeFeed x = new ChangeFeed(4, 2, 3, 0);
        for (int chunk = 0; chunk < 2; chunk++) {
            x.snapshot();
            x.snapshot();
            x.snapshot();
            x.step(9);
        }
        commitPut(x, 0, 3, 1);
        commitPut(x, 2, 3, 2);
        x.step(9);
        x.deliver(0);
        x.apply();
        DUE.is("10 the first chunk", x.stored(0), row(0, 0));
        DUE.is("10 the first chunk alone", x.stored(2), NO_ROW);
        x.deliver(0);
        x.apply();
        DUE.is("10 the second chunk", x.stored(2), row(2, 20));
        finishAll(x);
        DUE.is("10 the first commit", x.stored(0), row(3, 1));
        DUE.is("10 the second commit", x.stored(2), row(3, 2));
    }

    private static void promise11Waiting() {
        ChangeFeed x = new ChangeFeed(4, 2, 1, 0);
        for (int i = 0; i < 6; i++) {
            DUE.is("11 waiting", x.waiting(), Math.min(i, 4));
            commitPut(x, 0, 0, i);
            DUE.is("11 not before it is read", x.waiting(), Math.min(i, 4));
            x.step(100);
        }
        DUE.is("11 sent again", x.tick(1), 4);
        DUE.is("11 waiting still", x.waiting(), 4);
        x.deliver(0);
        x.apply();
        DUE.is("11 waiting still", x.waiting(), 4);
    }

    private static void promise12Tick() {
        ChangeFeed x = new ChangeFeed(4, 2, 3, 0);
        for (int n : new int[] {Integer.MIN_VALUE, -1, 51, Integer.MAX_VALUE}) {
            DUE.is("12 bad", x.tick(n), BAD);
        }
        commitPut(x, 0, 0, 1);
        x.step(9);
        DUE.is("12 bad", x.tick(51), BAD);
        DUE.is("12 none", x.tick(0), 0);
        DUE.is("12 two ticks", x.tick(2), 0);
        commitPut(x, 1, 0, 1);
        x.step(9);
        DUE.is("12 the first one again", x.tick(1), 1);
        DUE.is("12 it comes to the end", x.packet(2, 2), 1);
        DUE.is("12 not yet", x.tick(1), 0);
        DUE.is("12 the second one again", x.tick(1), 1);
        packetIs(x, 3, 0, 0, 3, 1);
        DUE.is("12 the first one a third time", x.tick(1), 1);
        DUE.is("12 five in flight", x.flight(), 5);
        DUE.is("12 the second, the first, the second", x.tick(5), 3);
        DUE.is("12 the oldest first", x.packet(6, 2), 1);
        DUE.is("12 fifty ticks", x.tick(50), 33);

        ChangeFeed y = new ChangeFeed(4, 2, 1, 0);
        for (int k = 0; k < 3; k++) {
            commitPut(y, k, 0, 1);
        }
        y.step(100);
        DUE.is("12 all of them", y.tick(1), 3);
        for (int i = 0; i < 3; i++) {
            DUE.is("12 the oldest first", y.packet(3 + i, 2), 1 + 2 * i);
        }
    }

    private static void promise12TickSendsIntoAFullChannel() {
        ChangeFeed x = new ChangeFeed(4, 2, 2, 0);
        commitPut(x, 0, 0, 1);
        x.step(9);
        while (x.flight() < 8) {
            x.alter(0, true);
        }
        DUE.is("12 sent and lost", x.tick(2), 1);
        DUE.is("12 eight", x.flight(), 8);
        x.alter(0, false);
        DUE.is("12 a lost one was sent too", x.tick(1), 0);
        DUE.is("12 seven", x.flight(), 7);
        DUE.is("12 and now again", x.tick(1), 1);
        DUE.is("12 eight", x.flight(), 8);
    }

    private static void promise13Deliver() {
        ChangeFeed x = new ChangeFeed(4, 2, 3, 0);
        DUE.is("13 nothing there", x.deliver(0), false);
        commitPut(x, 0, 0, 1);
        commitPut(x, 1, 0, 2);
        commitPut(x, 2, 0, 3);
        x.step(100);
        for (int i : new int[] {Integer.MIN_VALUE, -1, 3, 8, Integer.MAX_VALUE}) {
            DUE.is("13 none such", x.deliver(i), false);
        }
        x.alter(0, true);
        x.alter(1, true);
        DUE.is("13 out of turn", x.deliver(1), true);
        DUE.is("13 taken out", x.flight(), 4);
        DUE.is("13 the order stays", x.packet(1, 2), 5);
        DUE.is("13 not staged", x.apply(), false);
        DUE.is("13 in turn", x.deliver(0), true);
        DUE.is("13 one is staged already", x.deliver(2), true);
        DUE.is("13 no ACK for it", x.flight(), 2);
        DUE.is("13 the staged one twice", x.deliver(1), true);
        DUE.is("13 no ACK before it is stored", x.flight(), 1);
        DUE.is("13 the first one is stored", x.apply(), true);
        DUE.is("13 the first one is stored", x.position(), 1);
        DUE.is("13 nothing else", x.apply(), false);
        x.tick(3);
        DUE.is("13 three again", x.flight(), 5);
        DUE.is("13 an old one", x.packet(2, 2), 1);
        DUE.is("13 an old one", x.deliver(2), true);
        packetIs(x, 4, 2, 0, 1, 0);
        DUE.is("13 taken out, and an ACK", x.flight(), 5);
        DUE.is("13 not staged", x.apply(), false);
        DUE.is("13 the BEFORE of another", x.deliver(0), true);
        DUE.is("13 not staged", x.apply(), false);
    }

    private static void promise13DeliverAck() {
        ChangeFeed x = new ChangeFeed(4, 2, 3, 0);
        for (int k = 0; k < 4; k++) {
            commitPut(x, k, 0, k);
        }
        x.step(100);
        x.deliver(0);
        x.apply();
        x.deliver(0);
        x.apply();
        x.deliver(0);
        x.apply();
        packetIs(x, 1, 2, 0, 1, 0);
        packetIs(x, 2, 2, 0, 3, 0);
        packetIs(x, 3, 2, 0, 5, 0);
        x.alter(1, true);
        DUE.is("13 the second ACK", x.deliver(2), true);
        DUE.is("13 two leave the queue", x.waiting(), 2);
        DUE.is("13 an earlier ACK", x.deliver(1), true);
        DUE.is("13 nothing leaves", x.waiting(), 2);
        DUE.is("13 the third one is sent again", x.tick(3), 2);
        DUE.is("13 with its position", x.packet(x.flight() - 2, 2), 5);
        DUE.is("13 with its BEFORE", x.packet(x.flight() - 2, 3), 3);
        DUE.is("13 the third ACK", x.deliver(1), true);
        DUE.is("13 one waits", x.waiting(), 1);
        DUE.is("13 two places are free", x.flight(), 4);
        x.deliver(0);
        x.apply();
        while (x.deliver(0)) {
            DUE.is("13 at most one waits", x.waiting() <= 1, true);
        }
        DUE.is("13 none waits", x.waiting(), 0);
    }

    private static void promise13DeliverAckKeepsTheTimes() {
        ChangeFeed x = new ChangeFeed(4, 2, 3, 0);
        commitPut(x, 0, 0, 1);
        x.step(9);
        x.tick(2);
        commitPut(x, 1, 0, 1);
        x.step(9);
        x.deliver(0);
        x.apply();
        x.deliver(1);
        DUE.is("13 one waits", x.waiting(), 1);
        DUE.is("13 its own time", x.tick(2), 0);
        DUE.is("13 its own time", x.tick(1), 1);
    }

    private static void promise13DeliverOldEpoch() {
        ChangeFeed x = new ChangeFeed(4, 2, 3, 0);
        commitPut(x, 0, 0, 1);
        x.step(9);
        x.alter(0, true);
        x.alter(0, true);
        x.crash(1);
        DUE.is("13 an event of an old epoch", x.deliver(0), true);
        DUE.is("13 is not staged", x.apply(), false);
        x.step(9);
        x.deliver(2);
        DUE.is("13 one of this epoch is", x.apply(), true);
        DUE.is("13 an old event of an old epoch", x.deliver(0), true);
        DUE.is("13 gets no ACK", x.flight(), 2);
        packetIs(x, 1, 2, 1, 1, 0);
        x.crash(1);
        commitPut(x, 1, 0, 1);
        x.step(9);
        x.deliver(2);
        x.apply();
        x.deliver(2);
        DUE.is("13 the ACK of this epoch", x.waiting(), 0);
        commitPut(x, 1, 0, 2);
        x.step(9);
        DUE.is("13 an ACK of an old epoch", x.deliver(1), true);
        DUE.is("13 changes nothing", x.waiting(), 1);

        ChangeFeed y = new ChangeFeed(4, 2, 3, 0);
        commitPut(y, 0, 0, 1);
        commitPut(y, 0, 0, 2);
        y.step(9);
        y.deliver(0);
        y.deliver(0);
        y.crash(1);
        y.step(9);
        y.deliver(0);
        y.apply();
        y.deliver(0);
        y.apply();
        y.alter(0, true);
        y.alter(1, true);
        y.crash(1);
        commitPut(y, 0, 0, 3);
        y.step(99);
        DUE.is("13 position of old ACKs", y.packet(3, 2), 3);
        y.deliver(3);
        y.deliver(0);
        DUE.is("13 an ACK of an old epoch changes nothing", y.waiting(), 1);
    }

    private static void promise14Alter() {
        ChangeFeed x = new ChangeFeed(4, 2, 3, 0);
        DUE.is("14 none", x.alter(0, true), false);
        DUE.is("14 none", x.alter(0, false), false);
        commitPut(x, 0, 0, 1);
        commitPut(x, 1, 0, 2);
        x.step(100);
        for (int i : new int[] {Integer.MIN_VALUE, -1, 2, 8, Integer.MAX_VALUE}) {
            DUE.is("14 none such", x.alter(i, true), false);
            DUE.is("14 none such", x.alter(i, false), false);
        }
        DUE.is("14 twice", x.alter(0, true), true);
        packetIs(x, 0, 0, 0, 1, -1);
        packetIs(x, 1, 0, 0, 3, 1);
        packetIs(x, 2, 0, 0, 1, -1);
        DUE.is("14 lost", x.alter(1, false), true);
        DUE.is("14 two", x.flight(), 2);
        packetIs(x, 1, 0, 0, 1, -1);
        x.crash(1);
        DUE.is("14 the same packet", x.alter(1, true), true);
        packetIs(x, 2, 0, 0, 1, -1);
        while (x.flight() < 8) {
            DUE.is("14 twice", x.alter(x.flight() - 1, true), true);
        }
        DUE.is("14 there are 8", x.alter(0, true), false);
        DUE.is("14 there are 8", x.flight(), 8);
        DUE.is("14 the last is lost", x.alter(7, false), true);
        DUE.is("14 seven", x.flight(), 7);
        DUE.is("14 a lost one is not delivered", x.waiting(), 0);
    }

    private static void promise15Flight() {
        ChangeFeed x = new ChangeFeed(4, 2, 1, 0);
        DUE.is("15 none", x.flight(), 0);
        for (int k = 0; k < 4; k++) {
            commitPut(x, k, 0, 1);
        }
        for (int i = 1; i <= 4; i++) {
            x.step(2);
            DUE.is("15 sent", x.flight(), i);
        }
        x.tick(1);
        DUE.is("15 eight", x.flight(), 8);
        x.tick(1);
        DUE.is("15 no more than eight", x.flight(), 8);
        DUE.is("15 what is sent is lost", x.packet(7, 2), 7);
        x.deliver(0);
        DUE.is("15 seven", x.flight(), 7);
        x.crash(0);
        x.crash(1);
        x.crash(2);
        DUE.is("15 seven", x.flight(), 7);
    }

    private static void promise16Packet() {
        ChangeFeed x = new ChangeFeed(4, 2, 3, 0);
        DUE.is("16 none", x.packet(0, 0), BAD);
        x.crash(1);
        commitPut(x, 0, 0, 1);
        x.snapshot();
        x.snapshot();
        x.snapshot();
        x.step(100);
        packetIs(x, 0, 0, 1, 1, -1);
        packetIs(x, 1, 1, 1, 3, 1);
        x.deliver(0);
        x.apply();
        packetIs(x, 1, 2, 1, 1, 0);
        for (int i : new int[] {Integer.MIN_VALUE, -1, 2, 7, 8, Integer.MAX_VALUE}) {
            DUE.is("16 no such packet", x.packet(i, 0), BAD);
        }
        for (int w : new int[] {Integer.MIN_VALUE, -1, 4, Integer.MAX_VALUE}) {
            DUE.is("16 no such word", x.packet(0, w), BAD);
            DUE.is("16 no such word", x.packet(1, w), BAD);
        }
    }

    private static void promise17Apply() {
        ChangeFeed x = new ChangeFeed(4, 2, 3, 0);
        DUE.is("17 nothing staged", x.apply(), false);
        commitPut(x, 0, 2, 9);
        x.step(9);
        x.deliver(0);
        DUE.is("17 not stored yet", x.stored(0), NO_ROW);
        DUE.is("17 not stored yet", x.position(), -1);
        DUE.is("17 apply", x.apply(), true);
        DUE.is("17 stored", x.stored(0), row(2, 9));
        DUE.is("17 position", x.position(), 1);
        DUE.is("17 an ACK", x.flight(), 1);
        packetIs(x, 0, 2, 0, 1, 0);
        DUE.is("17 once", x.apply(), false);
        DUE.is("17 once", x.flight(), 1);
        DUE.is("17 a commit is no progress", x.progress(), 0);
    }

    private static void promise17ApplyIntoAFullChannel() {
        ChangeFeed x = new ChangeFeed(4, 2, 3, 0);
        commitPut(x, 0, 2, 9);
        x.step(9);
        x.alter(0, true);
        x.deliver(0);
        while (x.flight() < 8) {
            x.alter(0, true);
        }
        DUE.is("17 the ACK is lost", x.apply(), true);
        DUE.is("17 eight", x.flight(), 8);
        DUE.is("17 no ACK", x.packet(7, 0), 0);
        DUE.is("17 position", x.position(), 1);
        DUE.is("17 an ACK takes the place", x.deliver(0), true);
        packetIs(x, 7, 2, 0, 1, 0);
    }

    private static void promise17ApplyOrderAndLeast() {
        ChangeFeed x = new ChangeFeed(4, 2, 3, 5);
        x.begin();
        x.begin();
        x.put(0, 0, 1, 9);
        x.put(1, 3, 1, 50);
        x.put(0, 0, 2, 8);
        x.put(0, 1, 1, 7);
        x.remove(0, 1);
        x.remove(0, 2);
        x.put(0, 2, 3, 5);
        x.end(0, true);
        finishAll(x);
        DUE.is("17 the last put", x.stored(0), row(2, 8));
        DUE.is("17 removed", x.stored(1), NO_ROW);
        DUE.is("17 put after remove, at LEAST", x.stored(2), row(3, 5));
        DUE.is("17 another transaction", x.stored(3), NO_ROW);
        x.end(1, false);
        x.begin();
        x.put(2, 0, 1, 4);
        x.put(2, 2, 1, Integer.MIN_VALUE);
        x.put(2, 3, 1, Integer.MAX_VALUE);
        x.end(2, true);
        finishAll(x);
        DUE.is("17 below LEAST", x.stored(0), NO_ROW);
        DUE.is("17 below LEAST", x.stored(2), NO_ROW);
        DUE.is("17 largest", x.stored(3), row(1, Integer.MAX_VALUE));
        DUE.is("17 the table keeps it", x.row(-1, 0), row(1, 4));
        x.begin();
        x.remove(3, 3);
        x.end(3, true);
        finishAll(x);
        DUE.is("17 removed", x.stored(3), NO_ROW);
    }

    private static void promise17ApplyChunk() {
        ChangeFeed x = new ChangeFeed(3, 3, 3, 0);
        commitPut(x, 0, 1, 4);
        finishAll(x);
        x.begin();
        x.remove(1, 0);
        x.end(1, true);
        DUE.is("17 stored till the remove is", x.stored(0), row(1, 4));
        storeChunk(x);
        DUE.is("17 a key without row", x.stored(0), NO_ROW);
        DUE.is("17 the rest of the chunk", x.stored(1), row(1, 10));

        // The rows were selected before the commits: the chunk may not undo them.
        ChangeFeed y = new ChangeFeed(3, 3, 3, 0);
        y.snapshot();
        y.step(1);
        y.snapshot();
        commitPut(y, 0, 2, 77);
        y.begin();
        y.remove(1, 1);
        y.end(1, true);
        y.snapshot();
        finishAll(y);
        DUE.is("17 the chunk keeps off a key that was put", y.stored(0), row(2, 77));
        DUE.is("17 the chunk keeps off a key that was removed", y.stored(1), NO_ROW);
        DUE.is("17 the rest of the chunk", y.stored(2), row(2, 20));

        ChangeFeed z = new ChangeFeed(3, 3, 3, 15);
        commitPut(z, 0, 2, 77);
        storeChunk(z);
        DUE.is("17 chunk", z.stored(0), row(2, 77));
        DUE.is("17 chunk below LEAST", z.stored(1), NO_ROW);
        DUE.is("17 chunk", z.stored(2), row(2, 20));
    }

    private static void promise18Stored() {
        ChangeFeed x = new ChangeFeed(4, 4, 3, Integer.MIN_VALUE);
        commitPut(x, 1, 3, -1);
        DUE.is("18 none", x.stored(1), NO_ROW);
        finishAll(x);
        DUE.is("18 a negative amount", x.stored(1), 17179869183L);
        for (int k : FAR) {
            DUE.is("18 no such key", x.stored(k), NO_ROW);
        }
        commitPut(x, 1, 0, Integer.MIN_VALUE);
        finishAll(x);
        DUE.is("18 least of all", x.stored(1), 2147483648L);
        storeChunk(x);
        DUE.is("18 a row of zero", x.stored(0), 0);
        DUE.is("18 chunk", x.stored(3), 12884901918L);
    }

    private static void promise19View() {
        ChangeFeed x = new ChangeFeed(12, 6, 3, Integer.MIN_VALUE);
        for (int g = -1; g < 5; g++) {
            DUE.is("19 none", x.view(g, false), 0);
            DUE.is("19 none", x.view(g, true), 0);
        }
        storeChunk(x);
        storeChunk(x);
        for (int g = 0; g < 4; g++) {
            DUE.is("19 count", x.view(g, false), 3);
            DUE.is("19 sum", x.view(g, true), 30 * g + 120);
        }
        for (int g : new int[] {Integer.MIN_VALUE, -1, 4, Integer.MAX_VALUE}) {
            DUE.is("19 no such group", x.view(g, false), 0);
            DUE.is("19 no such group", x.view(g, true), 0);
        }
        commitPut(x, 0, 1, Integer.MAX_VALUE);
        commitPut(x, 1, 1, Integer.MAX_VALUE);
        commitPut(x, 2, 3, Integer.MIN_VALUE);
        commitPut(x, 3, 3, Integer.MIN_VALUE);
        DUE.is("19 not stored yet", x.view(1, false), 3);
        finishAll(x);
        DUE.is("19 moved away", x.view(0, false), 2);
        DUE.is("19 moved away", x.view(0, true), 120);
        DUE.is("19 moved here", x.view(1, false), 4);
        DUE.is("19 a sum above int", x.view(1, true), 2L * Integer.MAX_VALUE + 140);
        DUE.is("19 moved away", x.view(2, false), 2);
        DUE.is("19 moved here", x.view(3, false), 4);
        DUE.is("19 a sum below int", x.view(3, true), 2L * Integer.MIN_VALUE + 180);
        x.begin();
        x.remove(4, 0);
        x.end(4, true);
        finishAll(x);
        DUE.is("19 removed", x.view(1, false), 3);
        DUE.is("19 removed", x.view(1, true), Integer.MAX_VALUE + 140L);
    }

    private static void promise20Position() {
        ChangeFeed x = new ChangeFeed(4, 2, 3, 0);
        DUE.is("20 at first", x.position(), -1);
        commitPut(x, 0, 0, 1);
        commitPut(x, 1, 0, 1);
        x.step(9);
        x.deliver(0);
        DUE.is("20 staged is not stored", x.position(), -1);
        x.apply();
        DUE.is("20 the first one's", x.position(), 1);
        x.crash(0);
        x.crash(1);
        x.crash(2);
        DUE.is("20 it stays", x.position(), 1);
        finishAll(x);
        DUE.is("20 the second one's", x.position(), 3);
        storeChunk(x);
        DUE.is("20 the HIGH's", x.position(), 5);
    }

    private static void promise21Progress() {
        ChangeFeed x = new ChangeFeed(5, 2, 3, 0);
        DUE.is("21 at first", x.progress(), 0);
        x.snapshot();
        x.snapshot();
        x.snapshot();
        x.step(9);
        DUE.is("21 not stored yet", x.progress(), 0);
        x.deliver(0);
        DUE.is("21 not stored yet", x.progress(), 0);
        x.apply();
        DUE.is("21 two", x.progress(), 2);
        storeChunk(x);
        DUE.is("21 four", x.progress(), 4);
        storeChunk(x);
        DUE.is("21 K, not six", x.progress(), 5);
        x.crash(1);
        x.crash(2);
        DUE.is("21 it stays", x.progress(), 5);
        commitPut(x, 0, 0, 1);
        finishAll(x);
        DUE.is("21 a commit is no progress", x.progress(), 5);
    }

    /** The language's rule 7: whatever the arguments and the state, also after the calls that the document answers for. */
    private static void noCallThrows() {
        int[] wild = {Integer.MIN_VALUE, -3, -1, 0, 1, 3, 7, 8, 50, 100, Integer.MAX_VALUE};
        for (int keys : wild) {
            ChangeFeed x = new ChangeFeed(keys, keys, keys, keys);
            for (int round = 0; round < 60; round++) {
                x.begin();
                for (int a : wild) {
                    callAll(x, a, wild[round % wild.length]);
                }
            }
            DUE.is("no call throws", x.flight() >= 0 && x.flight() <= 8, true);
        }
    }

    private static void callAll(ChangeFeed x, int a, int b) {
        x.lock(a, b);
        x.put(a, b, b, a);
        x.put(a, 0, 3, b);
        x.remove(a, b);
        x.row(a, b);
        x.end(a, b > 0);
        x.snapshot();
        x.step(a);
        x.tick(a);
        x.packet(a, b);
        x.deliver(a);
        x.apply();
        x.alter(a, b > 0);
        x.stored(a);
        x.view(a, b > 0);
        x.crash(a == 1 && b != 1 ? 2 : a);
    }
}
