import java.util.Arrays;

/** A feed of changes from a source table, over a log, a pipeline and a bad channel, to a sink. */
public final class ChangeFeed {
    public static final int BAD = -2;
    public static final int LOCKED = -3;
    public static final int FULL = -4;

    private static final int DONE = 0;
    private static final int NONE = -1;
    private static final long NO_ROW = -1L;
    private static final int THE_TABLE = -1;

    private static final int MOST_KEYS = 12;
    private static final int MOST_CHUNK = 6;
    private static final int MOST_TIMEOUT = 20;
    private static final int GROUPS = 4;
    private static final int MOST_OPEN = 4;
    private static final int LOG_PLACES = 160;
    private static final int QUEUE_PLACES = 4;
    private static final int CHANNEL_PLACES = 8;
    private static final int MOST_READS = 100;
    private static final int MOST_TICKS = 50;

    // A PUT and a REMOVE are one kind of entry: a REMOVE is a change to no row.
    private static final int CHANGE = 0;
    private static final int COMMIT = 1;
    private static final int ABORT = 2;
    private static final int LOW = 3;
    private static final int HIGH = 4;

    private static final int COMMIT_PACKET = 0;
    private static final int HIGH_PACKET = 1;
    private static final int ACK_PACKET = 2;

    private static final int KIND_WORD = 0;
    private static final int EPOCH_WORD = 1;
    private static final int POSITION_WORD = 2;
    private static final int BEFORE_WORD = 3;
    private static final int WORDS = 4;

    private final int keyCount;
    private final Source source;
    private final Channel channel;
    private final Pipeline pipeline;
    private final Sink sink;

    public ChangeFeed(int keys, int chunk, int timeout, int least) {
        keyCount = within(keys, MOST_KEYS);
        int chunkSize = within(chunk, MOST_CHUNK);
        Log log = new Log();
        source = new Source(log, keyCount);
        channel = new Channel();
        pipeline = new Pipeline(log, source, channel, keyCount, chunkSize, within(timeout, MOST_TIMEOUT));
        sink = new Sink(log, keyCount, chunkSize, least);
    }

    public int begin() {
        return source.open();
    }

    public int lock(int n, int k) {
        int refusal = refusalOf(n, k);
        if (refusal != DONE) {
            return refusal;
        }
        source.takeLock(n, k);
        return DONE;
    }

    public int put(int n, int k, int g, int amount) {
        if (!isGroup(g)) {
            return BAD;
        }
        int refusal = refusalOf(n, k);
        return refusal != DONE ? refusal : source.change(n, k, rowOf(g, amount));
    }

    public int remove(int n, int k) {
        int refusal = refusalOf(n, k);
        if (refusal != DONE) {
            return refusal;
        }
        return source.seenBy(n, k) == NO_ROW ? BAD : source.change(n, k, NO_ROW);
    }

    public int end(int n, boolean commit) {
        return source.isOpen(n) ? source.finish(n, commit) : BAD;
    }

    public long row(int n, int k) {
        if (!isKey(k)) {
            return NO_ROW;
        }
        if (n == THE_TABLE) {
            return source.inTable(k);
        }
        return source.isOpen(n) ? source.seenBy(n, k) : NO_ROW;
    }

    public boolean crash(int party) {
        switch (party) {
            case 0:
                source.abortAll();
                return true;
            case 1:
                sink.forgetStaged();
                channel.startEpoch();
                pipeline.restart(sink.position, sink.progress);
                return true;
            case 2:
                sink.forgetStaged();
                return true;
            default:
                return false;
        }
    }

    public int snapshot() {
        return pipeline.advanceChunk();
    }

    public int step(int n) {
        if (n < 0 || n > MOST_READS) {
            return BAD;
        }
        int read = 0;
        while (read < n && pipeline.readEntry()) {
            read++;
        }
        return read;
    }

    public int waiting() {
        return pipeline.queued;
    }

    public int tick(int n) {
        if (n < 0 || n > MOST_TICKS) {
            return BAD;
        }
        int sent = 0;
        for (int i = 0; i < n; i++) {
            sent += pipeline.passTime();
        }
        return sent;
    }

    public boolean deliver(int i) {
        if (!channel.holds(i)) {
            return false;
        }
        int kind = channel.word(i, KIND_WORD);
        int epoch = channel.word(i, EPOCH_WORD);
        int position = channel.word(i, POSITION_WORD);
        int before = channel.word(i, BEFORE_WORD);
        channel.takeOut(i);
        if (epoch != channel.epoch) {
            return true;
        }
        if (kind == ACK_PACKET) {
            pipeline.dropUpTo(position);
        } else if (position <= sink.position) {
            sendAck();
        } else {
            sink.offer(position, before);
        }
        return true;
    }

    public boolean alter(int i, boolean twice) {
        if (!channel.holds(i)) {
            return false;
        }
        if (twice) {
            return channel.repeat(i);
        }
        channel.takeOut(i);
        return true;
    }

    public int flight() {
        return channel.size;
    }

    public int packet(int i, int w) {
        return channel.holds(i) && w >= 0 && w < WORDS ? channel.word(i, w) : BAD;
    }

    public boolean apply() {
        if (!sink.storeStaged(pipeline.borne)) {
            return false;
        }
        sendAck();
        return true;
    }

    public long stored(int k) {
        return isKey(k) ? sink.rows[k] : NO_ROW;
    }

    public long view(int g, boolean sum) {
        if (!isGroup(g)) {
            return 0;
        }
        return sum ? sink.sumOf(g) : sink.countOf(g);
    }

    public int position() {
        return sink.position;
    }

    public int progress() {
        return sink.progress;
    }

    private void sendAck() {
        channel.send(ACK_PACKET, sink.position, 0);
    }

    private int refusalOf(int n, int k) {
        if (!source.isOpen(n) || !isKey(k)) {
            return BAD;
        }
        return source.isLockedByOther(n, k) ? LOCKED : DONE;
    }

    private boolean isKey(int k) {
        return k >= 0 && k < keyCount;
    }

    private static boolean isGroup(int g) {
        return g >= 0 && g < GROUPS;
    }

    private static int within(int value, int most) {
        return Math.max(1, Math.min(most, value));
    }

    private static long rowOf(int group, int amount) {
        return ((long) group << 32) | (amount & 0xFFFFFFFFL);
    }

    private static int groupOf(long row) {
        return (int) (row >> 32);
    }

    private static int amountOf(long row) {
        return (int) row;
    }

    /** The log: entries in the order in which they were written, never changed. */
    private static final class Log {
        private final int[] kinds = new int[LOG_PLACES];
        private final int[] transactions = new int[LOG_PLACES];
        private final int[] keys = new int[LOG_PLACES];
        private final long[] rows = new long[LOG_PLACES];
        private int size = 0;

        int write(int kind, int transaction, int key, long row) {
            // Never so, since every writer looks for room first; the index is looked at all the same.
            if (size >= LOG_PLACES) {
                return FULL;
            }
            kinds[size] = kind;
            transactions[size] = transaction;
            keys[size] = key;
            rows[size] = row;
            size++;
            return size - 1;
        }

        boolean isChangeOf(int place, int transaction) {
            return kinds[place] == CHANGE && transactions[place] == transaction;
        }
    }

    /** The table, the open transactions and their locks. */
    private static final class Source {
        private static final long UNTOUCHED = -2L;

        private final Log log;
        private final long[] table;
        private final int[] lockers;
        // Only the transaction that has locked a key can have changed it: one place for each key is enough.
        private final long[] changed;
        // In the order of their numbers, which is the order in which a crash ends them.
        private final int[] openNumbers = new int[MOST_OPEN];
        private int openCount = 0;
        private int begun = 0;

        Source(Log log, int keyCount) {
            this.log = log;
            table = new long[keyCount];
            lockers = new int[keyCount];
            changed = new long[keyCount];
            for (int k = 0; k < keyCount; k++) {
                table[k] = rowOf(k % GROUPS, 10 * k);
                lockers[k] = NONE;
                changed[k] = UNTOUCHED;
            }
        }

        boolean hasRoom(int moreEntries, int moreOpen) {
            return LOG_PLACES - log.size - moreEntries >= openCount + moreOpen;
        }

        int open() {
            if (openCount >= MOST_OPEN || !hasRoom(0, 1)) {
                return FULL;
            }
            openNumbers[openCount] = begun;
            openCount++;
            begun++;
            return begun - 1;
        }

        boolean isOpen(int n) {
            return slotOf(n) != NONE;
        }

        boolean isLockedByOther(int n, int k) {
            return lockers[k] != NONE && lockers[k] != n;
        }

        void takeLock(int n, int k) {
            lockers[k] = n;
        }

        long inTable(int k) {
            return table[k];
        }

        long seenBy(int n, int k) {
            return lockers[k] == n && changed[k] != UNTOUCHED ? changed[k] : table[k];
        }

        int change(int n, int k, long row) {
            if (!hasRoom(1, 0)) {
                return FULL;
            }
            takeLock(n, k);
            changed[k] = row;
            log.write(CHANGE, n, k, row);
            return DONE;
        }

        int finish(int n, boolean commit) {
            for (int k = 0; k < table.length; k++) {
                if (lockers[k] == n) {
                    loosen(k, commit);
                }
            }
            close(slotOf(n));
            return log.write(commit ? COMMIT : ABORT, n, NONE, NO_ROW);
        }

        void abortAll() {
            for (int left = openCount; left > 0; left--) {
                finish(openNumbers[0], false);
            }
        }

        private void loosen(int k, boolean keep) {
            if (keep && changed[k] != UNTOUCHED) {
                table[k] = changed[k];
            }
            changed[k] = UNTOUCHED;
            lockers[k] = NONE;
        }

        private int slotOf(int n) {
            for (int slot = 0; slot < openCount; slot++) {
                if (openNumbers[slot] == n) {
                    return slot;
                }
            }
            return NONE;
        }

        private void close(int slot) {
            if (slot == NONE) {
                return;
            }
            openCount--;
            for (int later = slot; later < openCount; later++) {
                openNumbers[later] = openNumbers[later + 1];
            }
        }
    }

    /** The packets under way, in their order, each as its four words. */
    private static final class Channel {
        private final int[] words = new int[CHANNEL_PLACES * WORDS];
        private int size = 0;
        private int epoch = 0;

        void startEpoch() {
            epoch++;
        }

        boolean holds(int i) {
            return i >= 0 && i < size;
        }

        int word(int i, int w) {
            return words[i * WORDS + w];
        }

        void send(int kind, int position, int before) {
            append(kind, epoch, position, before);
        }

        boolean repeat(int i) {
            return append(word(i, KIND_WORD), word(i, EPOCH_WORD), word(i, POSITION_WORD), word(i, BEFORE_WORD));
        }

        void takeOut(int i) {
            size--;
            System.arraycopy(words, (i + 1) * WORDS, words, i * WORDS, (size - i) * WORDS);
        }

        private boolean append(int kind, int packetEpoch, int position, int before) {
            if (size >= CHANNEL_PLACES) {
                return false;
            }
            int start = size * WORDS;
            words[start + KIND_WORD] = kind;
            words[start + EPOCH_WORD] = packetEpoch;
            words[start + POSITION_WORD] = position;
            words[start + BEFORE_WORD] = before;
            size++;
            return true;
        }
    }

    /** The chunk of the snapshot that is being taken, if there is one. */
    private static final class ChunkWork {
        // The phases after IDLE have the numbers that snapshot() answers on coming to them.
        private static final int IDLE = 0;
        private static final int LOW_WRITTEN = 1;
        private static final int SELECTED = 2;
        private static final int HIGH_WRITTEN = 3;

        private final long[] selected;
        private final boolean[] struck;
        private int phase = IDLE;
        private int low = NONE;
        private int high = NONE;

        ChunkWork(int keyCount) {
            selected = new long[keyCount];
            struck = new boolean[keyCount];
        }

        void start(int lowPosition) {
            phase = LOW_WRITTEN;
            low = lowPosition;
            for (int k = 0; k < struck.length; k++) {
                struck[k] = false;
            }
        }

        void select(Source source, int first, int afterLast) {
            phase = SELECTED;
            for (int k = first; k < afterLast; k++) {
                selected[k] = source.inTable(k);
            }
        }

        void close(int highPosition) {
            phase = HIGH_WRITTEN;
            high = highPosition;
        }

        void stop() {
            phase = IDLE;
        }

        boolean isLowBefore(int place) {
            return phase != IDLE && low < place;
        }

        boolean isItsHigh(int place) {
            return phase == HIGH_WRITTEN && high == place;
        }

        long rowToBear(int k) {
            return struck[k] ? NO_ROW : selected[k];
        }
    }

    /** The reader of the log: its queue of events and its snapshot. */
    private static final class Pipeline {
        private final Log log;
        private final Source source;
        private final Channel channel;
        private final int keyCount;
        private final int chunkSize;
        private final int timeout;
        private final ChunkWork work;
        // The rows that the HIGHs bear, by key: the chunks of one epoch have no key in common,
        // and a HIGH of an older epoch is never stored.
        private final long[] borne;
        private final int[] positions = new int[QUEUE_PLACES];
        private final int[] befores = new int[QUEUE_PLACES];
        private final int[] sentAt = new int[QUEUE_PLACES];
        private int queued = 0;
        private int time = 0;
        private int from = NONE;
        private int lastEmitted = NONE;
        private int place = 0;
        private int next = 0;

        Pipeline(Log log, Source source, Channel channel, int keyCount, int chunkSize, int timeout) {
            this.log = log;
            this.source = source;
            this.channel = channel;
            this.keyCount = keyCount;
            this.chunkSize = chunkSize;
            this.timeout = timeout;
            work = new ChunkWork(keyCount);
            borne = new long[keyCount];
        }

        void restart(int sinkPosition, int sinkProgress) {
            queued = 0;
            work.stop();
            from = sinkPosition;
            lastEmitted = sinkPosition;
            place = 0;
            next = sinkProgress;
        }

        int advanceChunk() {
            switch (work.phase) {
                case ChunkWork.IDLE:
                    return beginChunk();
                case ChunkWork.LOW_WRITTEN:
                    work.select(source, next, afterChunk());
                    return work.phase;
                case ChunkWork.SELECTED:
                    return closeChunk();
                default:
                    return BAD;
            }
        }

        boolean readEntry() {
            if (place >= log.size) {
                return false;
            }
            if (isToBeEmitted()) {
                if (queued >= QUEUE_PLACES) {
                    return false;
                }
                readEvent();
            }
            place++;
            return true;
        }

        int passTime() {
            time++;
            int sent = 0;
            for (int i = 0; i < queued; i++) {
                if (time - sentAt[i] >= timeout) {
                    sendQueued(i);
                    sent++;
                }
            }
            return sent;
        }

        void dropUpTo(int position) {
            // The queue is in the order of the positions: what leaves it is at its front.
            int gone = 0;
            while (gone < queued && positions[gone] <= position) {
                gone++;
            }
            queued -= gone;
            for (int i = 0; i < queued; i++) {
                positions[i] = positions[i + gone];
                befores[i] = befores[i + gone];
                sentAt[i] = sentAt[i + gone];
            }
        }

        private int beginChunk() {
            if (next >= keyCount) {
                return BAD;
            }
            if (!source.hasRoom(1, 0)) {
                return FULL;
            }
            work.start(log.write(LOW, NONE, NONE, NO_ROW));
            return work.phase;
        }

        private int closeChunk() {
            if (!source.hasRoom(1, 0)) {
                return FULL;
            }
            // The sink finds in the entry where the chunk begins.
            work.close(log.write(HIGH, NONE, next, NO_ROW));
            return work.phase;
        }

        private int afterChunk() {
            return Math.min(next + chunkSize, keyCount);
        }

        private boolean isToBeEmitted() {
            return log.kinds[place] == COMMIT ? place > from : work.isItsHigh(place);
        }

        private void readEvent() {
            emit();
            if (log.kinds[place] == COMMIT) {
                strikeKeysOf(log.transactions[place]);
            } else {
                bearChunk();
            }
        }

        private void strikeKeysOf(int transaction) {
            if (!work.isLowBefore(place)) {
                return;
            }
            for (int i = 0; i < place; i++) {
                if (log.isChangeOf(i, transaction)) {
                    work.struck[log.keys[i]] = true;
                }
            }
        }

        private void bearChunk() {
            for (int k = next; k < afterChunk(); k++) {
                borne[k] = work.rowToBear(k);
            }
            work.stop();
            next += chunkSize;
        }

        private void emit() {
            positions[queued] = place;
            befores[queued] = lastEmitted;
            lastEmitted = place;
            queued++;
            sendQueued(queued - 1);
        }

        private void sendQueued(int i) {
            int kind = log.kinds[positions[i]] == HIGH ? HIGH_PACKET : COMMIT_PACKET;
            channel.send(kind, positions[i], befores[i]);
            sentAt[i] = time;
        }
    }

    /** The stored rows, and how far they came. */
    private static final class Sink {
        private final Log log;
        private final int chunkSize;
        private final int least;
        private final long[] rows;
        private int staged = NONE;
        private int position = NONE;
        private int progress = 0;

        Sink(Log log, int keyCount, int chunkSize, int least) {
            this.log = log;
            this.chunkSize = chunkSize;
            this.least = least;
            rows = new long[keyCount];
            Arrays.fill(rows, NO_ROW);
        }

        void forgetStaged() {
            staged = NONE;
        }

        void offer(int eventPosition, int before) {
            if (before == position && staged == NONE) {
                staged = eventPosition;
            }
        }

        boolean storeStaged(long[] borne) {
            if (staged == NONE) {
                return false;
            }
            if (log.kinds[staged] == HIGH) {
                storeChunk(borne, log.keys[staged]);
            } else {
                storeChanges(log.transactions[staged]);
            }
            position = staged;
            staged = NONE;
            return true;
        }

        int countOf(int group) {
            int count = 0;
            for (int k = 0; k < rows.length; k++) {
                if (isOfGroup(k, group)) {
                    count++;
                }
            }
            return count;
        }

        long sumOf(int group) {
            long sum = 0;
            for (int k = 0; k < rows.length; k++) {
                if (isOfGroup(k, group)) {
                    sum += amountOf(rows[k]);
                }
            }
            return sum;
        }

        private boolean isOfGroup(int k, int group) {
            return rows[k] != NO_ROW && groupOf(rows[k]) == group;
        }

        private void storeChunk(long[] borne, int first) {
            int afterLast = Math.min(first + chunkSize, rows.length);
            for (int k = first; k < afterLast; k++) {
                // A key that the chunk bears no row for keeps what is stored.
                if (borne[k] != NO_ROW) {
                    storeRow(k, borne[k]);
                }
            }
            progress = Math.min(progress + chunkSize, rows.length);
        }

        private void storeChanges(int transaction) {
            for (int i = 0; i < staged; i++) {
                if (log.isChangeOf(i, transaction)) {
                    storeRow(log.keys[i], log.rows[i]);
                }
            }
        }

        private void storeRow(int k, long row) {
            rows[k] = row != NO_ROW && amountOf(row) >= least ? row : NO_ROW;
        }
    }
}
