import java.io.IOException;
import java.nio.file.Files;
import java.nio.file.Path;

/** The examples of README.md: each line answers what its comment says, and no line stands there that is not run here. */
public final class ReadmeTest extends Checks {
    public static void main(String[] args) throws IOException {
        examples();
        everyLineIsRun();
        DUE.finish();
    }

    private static void examples() {
        ChangeFeed feed = new ChangeFeed(4, 2, 3, 0);
        DUE.is("begin", feed.begin(), 0);
        DUE.is("put", feed.put(0, 1, 2, 50), 0);
        DUE.is("row", feed.row(-1, 1), 4294967306L);
        DUE.is("end", feed.end(0, true), 1);
        DUE.is("step", feed.step(10), 2);
        DUE.is("deliver", feed.deliver(0), true);
        DUE.is("apply", feed.apply(), true);
        DUE.is("deliver", feed.deliver(0), true);
        DUE.is("view", feed.view(2, true), 50);

        DUE.is("snapshot", feed.snapshot(), 1);
        DUE.is("snapshot", feed.snapshot(), 2);
        DUE.is("snapshot", feed.snapshot(), 3);
        DUE.is("step", feed.step(10), 2);
        DUE.is("alter", feed.alter(0, false), true);
        DUE.is("tick", feed.tick(3), 1);
        DUE.is("deliver", feed.deliver(0), true);
        DUE.is("apply", feed.apply(), true);
        DUE.is("progress", feed.progress(), 2);
        DUE.is("stored", feed.stored(0), 0);

        DUE.is("crash", feed.crash(1), true);
        DUE.is("step", feed.step(10), 4);
        DUE.is("waiting", feed.waiting(), 0);
        DUE.is("packet", feed.packet(0, 1), 0);
        DUE.is("deliver", feed.deliver(1), false);
        DUE.is("lock", feed.lock(0, 1), ChangeFeed.BAD);
    }

    private static void everyLineIsRun() throws IOException {
        String here = Files.readString(Path.of("src/test/java/ReadmeTest.java"));
        int from = 0;
        int lines = 0;
        for (String line : Files.readAllLines(Path.of("README.md"))) {
            if (line.startsWith("feed.")) {
                String asRun = asRun(line);
                int at = here.indexOf(asRun, from);
                DUE.is("README.md: '" + asRun + "' is run in its place", at >= from, true);
                from = Math.max(from, at + asRun.length());
                lines++;
            }
        }
        DUE.is("README.md: as many lines as are run", lines, here.split("DUE[.]is[(]\"[a-z]+\", feed[.]").length - 1);
    }

    /** "feed.begin();  // 0: a number" is run as "feed.begin(), 0)". */
    private static String asRun(String line) {
        String call = line.substring(0, Math.max(0, line.indexOf(';')));
        String answer = line.replaceAll("^.*// *", "").replaceAll(":.*$", "");
        return call + ", " + answer + ")";
    }
}
