/** What the tests of single calls share: the count of wrong answers, and small runs of calls. */
class Checks {
    static final int BAD = -2;
    static final int LOCKED = -3;
    static final int FULL = -4;
    static final long NO_ROW = -1;
    static final int MIN = Integer.MIN_VALUE;
    static final int MAX = Integer.MAX_VALUE;

    static final Due DUE = new Due();

    static long row(int group, int amount) {
        return group * 4294967296L + (amount < 0 ? amount + 4294967296L : amount);
    }

    static void packetIs(ChangeFeed x, int i, int kind, int epoch, int position, int before) {
        DUE.is("packet(" + i + ", 0)", x.packet(i, 0), kind);
        DUE.is("packet(" + i + ", 1)", x.packet(i, 1), epoch);
        DUE.is("packet(" + i + ", 2)", x.packet(i, 2), position);
        DUE.is("packet(" + i + ", 3)", x.packet(i, 3), before);
    }

    static void commitPut(ChangeFeed x, int k, int g, int amount) {
        int n = x.begin();
        DUE.is("put", x.put(n, k, g, amount), 0);
        DUE.is("end", x.end(n, true) >= 0, true);
    }

    static void commitRemove(ChangeFeed x, int k) {
        int n = x.begin();
        DUE.is("remove", x.remove(n, k), 0);
        DUE.is("end", x.end(n, true) >= 0, true);
    }

    /** So many transactions, each a COMMIT and nothing else. */
    static void commitEmpty(ChangeFeed x, int transactions) {
        for (int i = 0; i < transactions; i++) {
            DUE.is("end", x.end(x.begin(), true) >= 0, true);
        }
    }

    static void fillLog(ChangeFeed x, int n, int entries) {
        for (int i = 0; i < entries; i++) {
            DUE.is("fill", x.put(n, 0, 0, 5), 0);
        }
    }

    /** So many entries in the log and so many open, the numbers 0, 1, ..; the puts are of transaction 0 and key 0. */
    static ChangeFeed filled(int entries, int open) {
        ChangeFeed x = new ChangeFeed(12, 6, 3, 0);
        for (int n = 0; n < Math.max(open, 1); n++) {
            DUE.is("begin", x.begin(), n);
        }
        if (open > 0) {
            fillLog(x, 0, entries);
        } else {
            fillLog(x, 0, entries - 1);
            DUE.is("end", x.end(0, true), entries - 1);
        }
        return x;
    }

    /** The packet doubles till the channel holds so many. */
    static void fillChannel(ChangeFeed x, int i, int packets) {
        for (int have = x.flight(); have < packets; have++) {
            DUE.is("double", x.alter(i, true), true);
        }
    }

    static void emptyChannel(ChangeFeed x) {
        for (int have = x.flight(); have > 0; have--) {
            DUE.is("lose", x.alter(0, false), true);
        }
    }

    /** Packet i, an event, is delivered and stored. */
    static void storePacket(ChangeFeed x, int i) {
        DUE.is("deliver", x.deliver(i), true);
        DUE.is("apply", x.apply(), true);
    }

    static void writeChunk(ChangeFeed x) {
        DUE.is("low", x.snapshot(), 1);
        DUE.is("select", x.snapshot(), 2);
        DUE.is("high", x.snapshot(), 3);
    }

    static void storeChunk(ChangeFeed x) {
        writeChunk(x);
        finishAll(x);
    }

    /** Reads, delivers and stores till nothing is left of the log, the queue and the channel. */
    static void finishAll(ChangeFeed x) {
        for (int round = 0; round < 10 && (x.step(100) > 0 || x.waiting() > 0); round++) {
            if (x.flight() == 0) {
                x.tick(20);
            }
            for (int i = 0; i < 16 && x.deliver(0); i++) {
                x.apply();
            }
        }
        DUE.is("all is stored", x.waiting() + x.step(1), 0);
    }
}
