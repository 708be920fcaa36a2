import java.util.Random;

/** LANGUAGE.md, rule 7: no call may throw, for any arguments in any state; nor answer what no promise has. */
public final class AnyCalls {
    private static final int[] EDGES = {Integer.MIN_VALUE, Integer.MIN_VALUE + 1, -401, -3, -2, -1, 0, 1, 2, 3, 4, 5, 8, 9, 10, 15, 16,
        17, 119, 120, 121, 255, 256, 299, 300, 301, 399, 400, 401, 1935, 1936, 1999, 2000, 2001, Integer.MAX_VALUE - 1, Integer.MAX_VALUE};
    private static final String[] PIECES = {"[[a]]", "{{a}}", "#to [[b]]", "{{b|$1$1$1$1$1|$2}}", "[[kind:a]]", "[[kind:b|$1]]", "a", "b",
        "kind:a", "kind:b", " ", "$1", "|", "[[", "]]", "{{", "}}", "\n", "c", "{{c|{{a}}|$9}}", "[[C|$1$1]]", "{{kind:b|$1}}",
        "{{d}}", "d", "x".repeat(60)};
    private static final String[] NO_TEXT = {"\u0000", "\u00ff", "\t", "\u007f", "y".repeat(301)};
    private static final String[] NAMES = {"a", "b", "c", "d", "kind:a", "kind:b", " A_ b", "Kind: _c", "abcdefghijklmnop", "0"};

    private final Random random;
    private final Calls web = new Calls();

    private AnyCalls(long seed) {
        // Random begins alike from seeds that lie side by side.
        random = new Random(seed * 0x9E3779B97F4A7C15L);
    }

    private int any() {
        switch (random.nextInt(4)) {
            case 0:
                return EDGES[random.nextInt(EDGES.length)];
            case 1:
                return random.nextInt();
            default:
                return random.nextInt(16);
        }
    }

    private int hand() {
        return random.nextInt(8) == 0 ? any() : random.nextInt(10);
    }

    private static String one(Random random, String[] of) {
        return of[random.nextInt(of.length)];
    }

    private void feedName() {
        if (random.nextInt(10) == 0) {
            feedSome();
        } else {
            feed(one(random, NAMES) + (random.nextInt(4) == 0 ? random.nextInt(10) : ""));
        }
    }

    private void feedSome() {
        String s = one(random, random.nextInt(20) == 0 ? NO_TEXT : PIECES);
        while (random.nextInt(3) > 0 && s.length() < 380) {
            s += one(random, PIECES);
        }
        feed(s);
    }

    private void feed(String s) {
        for (int from = 0; from < s.length(); from += 20) {
            int[] n = new int[5];
            for (int i = 0; i < 20; i++) {
                n[i / 4] = n[i / 4] << 8 | (from + i < s.length() ? s.charAt(from + i) & 255 : random.nextInt(256));
            }
            web.feed(n[0], n[1], n[2], n[3], n[4]);
        }
        web.end(random.nextInt(20) == 0 ? any() : s.length());
    }

    private int ask() {
        switch (random.nextInt(17)) {
            case 0:
                return web.as(random.nextBoolean() ? -1 : any()) ? 1 : 0;
            case 1:
                return web.count(any());
            case 2:
                return web.found(any());
            case 3:
                return Math.min(web.out(any()), 126);
            case 4:
                return web.named(any());
            case 5:
                return web.text(any());
            case 6:
                return web.read(any(), any());
            case 7:
                return web.show(any());
            case 8:
                return web.onward();
            case 9:
                return web.from(random.nextBoolean());
            case 10:
                return web.wanted();
            case 11:
                return web.touch();
            case 12:
                return web.within(any());
            case 13:
                return web.members(any());
            case 14:
                return web.blame(any(), any());
            case 15:
                return web.change(any(), any());
            default:
                return web.take();
        }
    }

    private int change() {
        switch (random.nextInt(9)) {
            case 0:
                feedName();
                return web.move(hand());
            case 1:
                feedName();
                return web.rename(hand());
            case 2:
                return web.gone(hand());
            case 3:
                return web.back(any(), hand());
            case 4:
            case 5:
                feedName();
                return web.name();
            default:
                feedSome();
                return web.write(hand());
        }
    }

    private void run(long seed) {
        // A change may take a tape of 20 calls, and two of them.
        while (web.made() < Calls.MOST - 25) {
            int answer = random.nextInt(3) == 0 ? change() : ask();
            if (answer < -3 || answer > 2000) {
                Due.is("a call of run " + seed, answer, "-3 .. 2000");
            }
        }
    }

    public static void main(String[] args) {
        Due.by("No call may ever throw or fail to end, for any arguments in any state");
        for (long seed = 0; seed < 3000; seed++) {
            try {
                new AnyCalls(seed).run(seed);
            } catch (RuntimeException thrown) {
                thrown.printStackTrace(System.out);
                Due.is("run " + seed, thrown, "none");
            }
        }
        Due.exit();
    }
}
