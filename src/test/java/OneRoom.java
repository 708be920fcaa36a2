import com.sun.management.ThreadMXBean;
import java.lang.management.ManagementFactory;

/** LANGUAGE.md, rule 12: what a run makes is counted; the dearest runs of 512 calls stay far below the room there is. */
public final class OneRoom {
    /** No element takes less than a byte and no object less than 16, so within these there are neither too many. */
    private static final long BYTES_MOST = 7_300_000;

    private static long made() {
        return ((ThreadMXBean) ManagementFactory.getThreadMXBean()).getThreadAllocatedBytes(Thread.currentThread().getId());
    }

    private static void is(String what, long before) {
        long bytes = made() - before;
        Due.is(what + ": " + bytes + " bytes, whether they are few enough", bytes < BYTES_MOST, true);
    }

    /** What is OUT is written until there are no more CHANGES, then the web is asked until there are no more calls. */
    private static void fill(Desk desk) {
        desk.web.text(0);
        while (desk.web.count(0) < 120) {
            desk.web.take();
            desk.web.write(0);
        }
        while (desk.web.made() < Calls.MOST - 4) {
            desk.web.wanted();
            desk.web.show(0);
            desk.web.touch();
            desk.web.within(0);
        }
    }

    private static void parts() {
        long before = made();
        Desk desk = new Desk();
        desk.put("a", "[[b]]".repeat(60));
        fill(desk);
        Due.is("CHANGES", desk.web.count(0), 120);
        is("120 TEXTS of 60 LINKS", before);
    }

    private static void renamed() {
        long before = made();
        Desk desk = new Desk();
        desk.put("b", "[[b]]".repeat(42));
        desk.web.text(0);
        for (char name = 'c'; name < 'p'; name++) {
            desk.name(String.valueOf(name));
            desk.web.take();
            desk.web.write(0);
        }
        desk.name("b");
        int renamed = desk.rename("p");
        Due.is("rename", renamed, 16);
        for (int call = desk.web.made(); call < Calls.MOST - 4; call += 4) {
            desk.rename("q");
        }
        is("16 TEXTS of 42 LINKS renamed", before);
    }

    /** WORDS of 2000 bytes by nine, on each level. */
    private static void words() {
        long before = made();
        Desk desk = new Desk();
        String nine = "|$1".repeat(9);
        for (int level = 2; level < 8; level++) {
            desk.put("p" + level, "{{p" + (level + 1) + nine + "}}");
        }
        desk.put("p1", "{{p2" + ("|" + "$1".repeat(13)).repeat(9) + "}}");
        desk.put("p0", "{{p1|" + "x".repeat(153) + "}}");
        int show = 0;
        while (desk.web.made() < Calls.MOST) {
            show = desk.web.show(7);
        }
        Due.is("show", show, 4);
        is("WORDS as long as they may be", before);
    }

    public static void main(String[] args) {
        Due.by("All calls of one run live in ONE room");
        // The first object of a class brings the class itself along.
        new Desk().put("a", "{{a}}");
        made();
        parts();
        renamed();
        words();
        Due.exit();
    }
}
