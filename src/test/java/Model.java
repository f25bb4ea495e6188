import java.util.ArrayList;
import java.util.HashSet;
import java.util.List;
import java.util.Map;
import java.util.Set;
import java.util.TreeMap;

/** The document written down a second time, as plainly as can be: every event bears its own rows, nothing is used again. */
final class Model {
    enum Kind { PUT, REMOVE, COMMIT, ABORT, LOW, HIGH }

    record Entry(Kind kind, int transaction, int key, int group, int amount) { }

    record Row(int group, int amount) {
        long number() {
            return group * (1L << 32) + (amount < 0 ? amount + (1L << 32) : amount);
        }
    }

    static final class Transaction {
        final Map<Integer, Row> did = new TreeMap<>();
        final Set<Integer> locks = new HashSet<>();
    }

    static final class Event {
        Kind kind;
        int position;
        int before;
        int sentLast;
        Map<Integer, Row> rows = new TreeMap<>();
    }

    record Packet(Event event, int epoch, int position) { }

    static final class Chunk {
        Entry low;
        Entry high;
        boolean lowRead;
        Map<Integer, Row> selected;
        final Set<Integer> struck = new HashSet<>();
    }

    private final int keys;
    private final int chunk;
    private final int timeout;
    private final int least;

    private final Map<Integer, Row> table = new TreeMap<>();
    private final Map<Integer, Transaction> open = new TreeMap<>();
    private final List<Entry> log = new ArrayList<>();
    private int begun = 0;

    private int from = -1;
    private int reads = 0;
    private List<Event> queue = new ArrayList<>();
    private Event emittedLast = null;
    private int next = 0;
    private Chunk work = null;

    private final List<Packet> channel = new ArrayList<>();
    private int epoch = 0;
    private int time = 0;

    private int position = -1;
    private int progress = 0;
    private final Map<Integer, Row> stored = new TreeMap<>();
    private Event staged = null;

    Model(int keys, int chunk, int timeout, int least) {
        this.keys = keys < 1 ? 1 : keys > 12 ? 12 : keys;
        this.chunk = chunk < 1 ? 1 : chunk > 6 ? 6 : chunk;
        this.timeout = timeout < 1 ? 1 : timeout > 20 ? 20 : timeout;
        this.least = least;
        for (int k = 0; k < this.keys; k++) {
            table.put(k, new Row(k % 4, 10 * k));
        }
    }

    int begin() {
        if (open.size() == 4 || 160 - log.size() < open.size() + 1) {
            return -4;
        }
        open.put(begun, new Transaction());
        return begun++;
    }

    int lock(int n, int k) {
        if (!open.containsKey(n) || !isKey(k)) {
            return -2;
        }
        if (lockedByAnother(n, k)) {
            return -3;
        }
        open.get(n).locks.add(k);
        return 0;
    }

    int put(int n, int k, int g, int amount) {
        if (!open.containsKey(n) || !isKey(k) || g < 0 || g > 3) {
            return -2;
        }
        if (lockedByAnother(n, k)) {
            return -3;
        }
        if (!roomForEntry()) {
            return -4;
        }
        open.get(n).locks.add(k);
        open.get(n).did.put(k, new Row(g, amount));
        log.add(new Entry(Kind.PUT, n, k, g, amount));
        return 0;
    }

    int remove(int n, int k) {
        if (!open.containsKey(n) || !isKey(k)) {
            return -2;
        }
        if (lockedByAnother(n, k)) {
            return -3;
        }
        if (sees(n, k) == null) {
            return -2;
        }
        if (!roomForEntry()) {
            return -4;
        }
        open.get(n).locks.add(k);
        open.get(n).did.put(k, null);
        log.add(new Entry(Kind.REMOVE, n, k, 0, 0));
        return 0;
    }

    int end(int n, boolean commit) {
        if (!open.containsKey(n)) {
            return -2;
        }
        Transaction ended = open.remove(n);
        if (commit) {
            table.putAll(ended.did);
        }
        log.add(new Entry(commit ? Kind.COMMIT : Kind.ABORT, n, 0, 0, 0));
        return log.size() - 1;
    }

    long row(int n, int k) {
        Row row = !isKey(k) ? null : n == -1 ? table.get(k) : open.containsKey(n) ? sees(n, k) : null;
        return row == null ? -1 : row.number();
    }

    boolean crash(int party) {
        if (party == 0) {
            for (int n : new ArrayList<>(open.keySet())) {
                end(n, false);
            }
        } else if (party == 1) {
            queue = new ArrayList<>();
            work = null;
            epoch++;
            from = position;
            emittedLast = null;
            reads = 0;
            next = progress;
            staged = null;
        } else if (party == 2) {
            staged = null;
        }
        return party >= 0 && party <= 2;
    }

    int snapshot() {
        if (work == null && next >= keys || work != null && work.high != null) {
            return -2;
        }
        if ((work == null || work.selected != null) && !roomForEntry()) {
            return -4;
        }
        if (work == null) {
            work = new Chunk();
            work.low = new Entry(Kind.LOW, 0, 0, 0, 0);
            work.lowRead = false;
            log.add(work.low);
            return 1;
        }
        if (work.selected == null) {
            work.selected = new TreeMap<>();
            for (int k = next; k <= next + chunk - 1; k++) {
                if (table.get(k) != null) {
                    work.selected.put(k, table.get(k));
                }
            }
            return 2;
        }
        work.high = new Entry(Kind.HIGH, 0, 0, 0, 0);
        log.add(work.high);
        return 3;
    }

    int step(int n) {
        if (n < 0 || n > 100) {
            return -2;
        }
        int read = 0;
        while (read < n && reads < log.size() && readOne(log.get(reads))) {
            reads++;
            read++;
        }
        return read;
    }

    private boolean readOne(Entry entry) {
        boolean commit = entry.kind() == Kind.COMMIT && reads > from;
        boolean high = work != null && entry == work.high;
        if ((commit || high) && queue.size() == 4) {
            return false;
        }
        if (work != null && entry == work.low) {
            work.lowRead = true;
        }
        if (commit) {
            emit(Kind.COMMIT, new TreeMap<>());
            if (work != null && work.lowRead) {
                for (Entry one : log.subList(0, reads)) {
                    if ((one.kind() == Kind.PUT || one.kind() == Kind.REMOVE)
                            && one.transaction() == entry.transaction()) {
                        work.struck.add(one.key());
                    }
                }
            }
        }
        if (high) {
            Map<Integer, Row> rows = new TreeMap<>(work.selected);
            rows.keySet().removeAll(work.struck);
            emit(Kind.HIGH, rows);
            work = null;
            next = next + chunk;
        }
        return true;
    }

    private void emit(Kind kind, Map<Integer, Row> rows) {
        Event event = new Event();
        event.kind = kind;
        event.position = reads;
        event.before = emittedLast == null ? from : emittedLast.position;
        event.rows = rows;
        emittedLast = event;
        queue.add(event);
        sendEvent(event);
    }

    private void sendEvent(Event event) {
        event.sentLast = time;
        send(new Packet(event, epoch, event.position));
    }

    private void sendAck() {
        send(new Packet(null, epoch, position));
    }

    private void send(Packet packet) {
        if (channel.size() < 8) {
            channel.add(packet);
        }
    }

    int waiting() {
        return queue.size();
    }

    int tick(int n) {
        if (n < 0 || n > 50) {
            return -2;
        }
        int sent = 0;
        for (int i = 0; i < n; i++) {
            time++;
            for (Event event : queue) {
                if (time - event.sentLast >= timeout) {
                    sendEvent(event);
                    sent++;
                }
            }
        }
        return sent;
    }

    boolean deliver(int i) {
        if (i < 0 || i >= channel.size()) {
            return false;
        }
        Packet packet = channel.remove(i);
        if (packet.epoch() != epoch) {
            return true;
        }
        if (packet.event() == null) {
            queue.removeIf(event -> event.position <= packet.position());
        } else if (packet.position() <= position) {
            sendAck();
        } else if (packet.event().before == position && staged == null) {
            staged = packet.event();
        }
        return true;
    }

    boolean alter(int i, boolean twice) {
        if (i < 0 || i >= channel.size() || twice && channel.size() == 8) {
            return false;
        }
        if (twice) {
            channel.add(channel.get(i));
        } else {
            channel.remove(i);
        }
        return true;
    }

    int flight() {
        return channel.size();
    }

    int packet(int i, int w) {
        if (i < 0 || i >= channel.size() || w < 0 || w > 3) {
            return -2;
        }
        Packet packet = channel.get(i);
        Event event = packet.event();
        int kind = event == null ? 2 : event.kind == Kind.HIGH ? 1 : 0;
        int before = event == null ? 0 : event.before;
        return w == 0 ? kind : w == 1 ? packet.epoch() : w == 2 ? packet.position() : before;
    }

    boolean apply() {
        if (staged == null) {
            return false;
        }
        if (staged.kind == Kind.HIGH) {
            staged.rows.forEach(this::store);
            progress = progress + chunk > keys ? keys : progress + chunk;
        } else {
            int transaction = log.get(staged.position).transaction();
            for (Entry entry : log) {
                if (entry.transaction() == transaction && entry.kind() == Kind.PUT) {
                    store(entry.key(), new Row(entry.group(), entry.amount()));
                }
                if (entry.transaction() == transaction && entry.kind() == Kind.REMOVE) {
                    stored.remove(entry.key());
                }
            }
        }
        position = staged.position;
        staged = null;
        sendAck();
        return true;
    }

    private void store(int k, Row row) {
        if (row.amount() < least) {
            stored.remove(k);
        } else {
            stored.put(k, row);
        }
    }

    long stored(int k) {
        return stored.containsKey(k) ? stored.get(k).number() : -1;
    }

    long view(int g, boolean sum) {
        long answer = 0;
        for (Row row : stored.values()) {
            if (row.group() == g) {
                answer += sum ? row.amount() : 1;
            }
        }
        return answer;
    }

    int position() {
        return position;
    }

    int progress() {
        return progress;
    }

    List<Integer> openNumbers() {
        return new ArrayList<>(open.keySet());
    }

    int entries() {
        return log.size();
    }

    private boolean isKey(int k) {
        return k >= 0 && k < keys;
    }

    private boolean lockedByAnother(int n, int k) {
        return open.entrySet().stream().anyMatch(e -> e.getKey() != n && e.getValue().locks.contains(k));
    }

    private Row sees(int n, int k) {
        Map<Integer, Row> did = open.get(n).did;
        return did.containsKey(k) ? did.get(k) : table.get(k);
    }

    private boolean roomForEntry() {
        return 160 - (log.size() + 1) >= open.size();
    }
}
