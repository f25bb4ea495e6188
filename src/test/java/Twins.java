import java.util.ArrayList;
import java.util.List;
import java.util.function.Consumer;
import java.util.function.Supplier;
import java.util.function.ToLongFunction;

/**
 * Two objects made by the same calls, of which one alone gets one call more. If that call changed anything, it shows
 * in what the two answer afterwards. One run of calls cannot show all (what it does hides the rest), so each of
 * several runs has two new objects.
 */
final class Twins {
    private static final int NUMBERS = 10;
    private static final int KEYS = 12;
    private static final int CALLS_OF_AN_OBJECT = 512;

    private final ChangeFeed feed;
    private final List<Long> answers = new ArrayList<>();

    private Twins(ChangeFeed feed) {
        this.feed = feed;
    }

    /** The call gives this answer, and changes nothing. */
    static void refused(Due due, String what, Supplier<ChangeFeed> made, ToLongFunction<ChangeFeed> call, long want) {
        List<Consumer<Twins>> runs = List.of(Twins::look, Twins::lockTheFirstFirst, Twins::lockTheLastFirst,
                Twins::stepOneByOne, Twins::tickOneByOne, Twins::applyAtOnce, Twins::snapshotAtOnce, Twins::storeAll,
                Twins::storeBeforeStep, Twins::crashAll, Twins::deliverFromTheEnd, Twins::fillTheChannel,
                Twins::fillTheLog);
        for (int run = 0; run < runs.size(); run++) {
            Twins called = new Twins(made.get());
            Twins other = new Twins(made.get());
            due.is(what, call.applyAsLong(called.feed), want);
            runs.get(run).accept(called);
            runs.get(run).accept(other);
            due.is(what + ": the first answer that is another one in run " + run, called.firstOther(other), -1);
            due.is(what + ": too many calls", called.answers.size() > CALLS_OF_AN_OBJECT - 200, false);
        }
    }

    private int firstOther(Twins other) {
        for (int i = 0; i < Math.max(answers.size(), other.answers.size()); i++) {
            if (i >= answers.size() || i >= other.answers.size() || !answers.get(i).equals(other.answers.get(i))) {
                return i;
            }
        }
        return -1;
    }

    private void say(long answer) {
        answers.add(answer);
    }

    private void say(boolean answer) {
        answers.add(answer ? 1L : 0L);
    }

    private void look() {
        for (int k = 0; k < KEYS; k++) {
            for (int n = -1; n < NUMBERS; n++) {
                say(feed.row(n, k));
            }
        }
        lookAtTheChannel();
        lookAtTheSink();
        say(feed.waiting());
    }

    private void lookAtTheChannel() {
        say(feed.flight());
        for (int i = 0; i < 32; i++) {
            say(feed.packet(i / 4, i % 4));
        }
    }

    private void lookAtTheSink() {
        say(feed.position());
        say(feed.progress());
        for (int k = 0; k < KEYS; k++) {
            say(feed.stored(k));
        }
        for (int g = 0; g < 4; g++) {
            say(feed.view(g, false));
            say(feed.view(g, true));
        }
    }

    private void lockTheFirstFirst() {
        for (int n = 0; n < NUMBERS; n++) {
            lockAndEnd(n);
        }
        lookAtTheTable();
    }

    private void lockTheLastFirst() {
        for (int n = NUMBERS - 1; n >= 0; n--) {
            lockAndEnd(n);
        }
        lookAtTheTable();
    }

    private void lockAndEnd(int n) {
        for (int k = 0; k < KEYS; k++) {
            say(feed.lock(n, k));
        }
        say(feed.put(n, 0, 1, 77));
        say(feed.remove(n, 1));
        say(feed.end(n, n % 3 != 2));
        say(feed.begin());
    }

    private void lookAtTheTable() {
        for (int k = 0; k < KEYS; k++) {
            say(feed.row(-1, k));
        }
        say(feed.step(100));
        say(feed.step(100));
    }

    private void stepOneByOne() {
        for (int i = 0; i < 20; i++) {
            say(feed.step(1));
            say(feed.waiting());
            say(feed.flight());
        }
        say(feed.step(100));
        say(feed.step(100));
        lookAtTheChannel();
    }

    private void tickOneByOne() {
        loseAll();
        for (int i = 0; i < 41; i++) {
            say(feed.tick(1));
            say(feed.packet(0, 2));
            say(feed.flight());
            say(feed.alter(0, false));
        }
    }

    private void loseAll() {
        for (int i = 0; i < 8; i++) {
            say(feed.alter(0, false));
        }
    }

    private void applyAtOnce() {
        say(feed.apply());
        lookAtTheSink();
        lookAtTheChannel();
        say(feed.apply());
    }

    private void snapshotAtOnce() {
        for (int i = 0; i < 4; i++) {
            say(feed.snapshot());
            say(feed.snapshot());
            say(feed.snapshot());
            say(feed.snapshot());
            say(feed.step(100));
            say(feed.step(100));
            deliverSix();
        }
        lookAtTheSink();
    }

    private void storeAll() {
        for (int i = 0; i < 8; i++) {
            say(feed.step(100));
            say(feed.step(100));
            deliverSix();
            say(feed.tick(20));
            deliverSix();
        }
        lookAtTheSink();
        say(feed.waiting());
    }

    private void storeBeforeStep() {
        deliverSix();
        deliverSix();
        stepOneByOne();
    }

    private void deliverSix() {
        for (int i = 0; i < 6; i++) {
            say(feed.deliver(0));
            say(feed.apply());
        }
    }

    private void crashAll() {
        say(feed.crash(0));
        say(feed.crash(1));
        say(feed.begin());
        say(feed.step(100));
        say(feed.step(100));
        lookAtTheChannel();
        writeChunkAndStore();
        say(feed.crash(2));
        say(feed.apply());
        lookAtTheSink();
    }

    private void writeChunkAndStore() {
        say(feed.snapshot());
        say(feed.snapshot());
        say(feed.snapshot());
        for (int i = 0; i < 3; i++) {
            say(feed.step(100));
            deliverSix();
        }
    }

    private void deliverFromTheEnd() {
        for (int i = 8; i >= 0; i--) {
            say(feed.deliver(i));
            say(feed.waiting());
            say(feed.flight());
            say(feed.apply());
        }
        lookAtTheSink();
    }

    private void fillTheChannel() {
        for (int i = 0; i < 9; i++) {
            say(feed.alter(0, true));
        }
        lookAtTheChannel();
        say(feed.tick(50));
        say(feed.apply());
        lookAtTheChannel();
    }

    private void fillTheLog() {
        say(feed.begin());
        for (int i = 0; i < 162; i++) {
            say(feed.put(i % NUMBERS, 11 - i % 3, 0, i));
        }
        say(feed.snapshot());
        for (int n = 0; n < NUMBERS; n++) {
            say(feed.end(n, false));
        }
        say(feed.begin());
        say(feed.crash(1));
        say(feed.step(100));
        say(feed.step(100));
    }
}
