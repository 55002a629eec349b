import java.lang.management.ManagementFactory;
import java.util.Random;

/**
 * All calls of one run live in one room of some 600,000 objects and 7.3 million fields and elements:
 * 512 calls of the dearest kinds must stay far below it, in bytes of 4 an element at least.
 */
public final class RoomTest {

    private static final int CALLS = 512;
    /** A tenth of the room, with 4 bytes for an element. */
    private static final long MOST_BYTES = 7_300_000L * 4 / 10;

    private final Tally tally = new Tally();
    private final com.sun.management.ThreadMXBean meter =
        (com.sun.management.ThreadMXBean) ManagementFactory.getThreadMXBean();

    public static void main(String[] args) {
        RoomTest test = new RoomTest();
        test.spends("quotes", ">".repeat(40));
        test.spends("items", "+ ".repeat(19) + "+");
        test.spends("links", "[a]: " + "g".repeat(35), "[a]".repeat(13));
        test.spends("rows", "*_".repeat(20));
        test.spends("brackets", "![".repeat(20), "](g)".repeat(10));
        test.spends("cells", "-|".repeat(20), "-|".repeat(20), "a");
        test.constructors();
        test.anySigns();
        test.tally.close("RoomTest");
    }

    private long used() {
        return meter.getThreadAllocatedBytes(Thread.currentThread().getId());
    }

    /** Types the lines, the last one as often as there is time, and then writes and edits in turn. */
    private void spends(String what, String... lines) {
        run(lines);
        long before = used();
        run(lines);
        long spent = used() - before;
        System.out.println(what + ": " + spent + " bytes");
        tally.same(what + ": " + spent + " bytes are few", spent < MOST_BYTES, true);
    }

    private static void run(String... lines) {
        WeaveMark mark = new WeaveMark();
        int calls = 0;
        for (int line = 0; line < 24 && calls < CALLS - 60; line++) {
            String text = lines[Math.min(line, lines.length - 1)];
            for (int index = 0; index < text.length(); index++) {
                mark.type(text.charAt(index));
                calls++;
            }
            mark.addLine();
            calls++;
        }
        while (calls + 4 < CALLS) {
            mark.isSound();
            mark.removeLine(mark.lines() - 1);
            mark.insertLine(0);
            mark.write();
            calls += 4;
        }
    }

    private void constructors() {
        long before = used();
        for (int call = 0; call < CALLS; call++) {
            new WeaveMark().isSound();
        }
        long spent = used() - before;
        tally.same("new objects: " + spent + " bytes fit", spent < MOST_BYTES * 9, true);
    }

    /** Full texts of any signs: nothing but what the document names is ever thrown. */
    private void anySigns() {
        Random random = new Random(28);
        String signs = "  >-+*_`[]()!^#|:=\\a1.<&~";
        for (int run = 0; run < 300; run++) {
            WeaveMark mark = new WeaveMark();
            int kinds = 1 + random.nextInt(signs.length());
            while (mark.lines() < 24) {
                int length = random.nextInt(41);
                for (int index = 0; index < length; index++) {
                    mark.type(signs.charAt((run + random.nextInt(kinds)) % signs.length()));
                }
                mark.addLine();
            }
            tally.same("sound, run " + run, mark.isSound(), true);
            int length = mark.write();
            tally.same("as long anew", mark.writeAnew(), length);
            while (mark.lines() > 0) {
                mark.removeLine(random.nextInt(mark.lines()));
                tally.same("sound, run " + run + " with " + mark.lines(), mark.isSound(), true);
            }
        }
    }
}
