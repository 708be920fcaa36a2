/** The bounds that the document tells under "Terms" III: what a CHANGE replaced, BLAME, and what is TAKEN BACK. */
public final class ReplacedBounds {
    /** Where what the second TEXT replaced of the first one began, how many bytes that was, how many came. */
    private static void replaced(String was, String is, int start, int before, int behind) {
        Desk desk = new Desk();
        desk.put("p", was);
        desk.put("p", is);
        Due.is("\"" + was + "\" to \"" + is + "\"", desk.change(2), "0 0 " + start + " " + before + " " + behind);
    }

    private static void firstOfAPage() {
        Due.by("the TEXT before (empty, if there was none)");
        Desk desk = new Desk();
        desk.put("p", "abc");
        desk.put("q", "");
        Due.is("a new page", desk.change(1), "0 0 0 0 3");
        Due.is("a new page without bytes", desk.change(2), "1 0 0 0 0");
        desk.gone("p");
        Due.is("GONE", desk.change(3), "0 0 0 3 0");
        desk.gone("q");
        Due.is("GONE without bytes", desk.change(4), "1 0 0 0 0");
        desk.put("p", "abc");
        Due.is("new again", desk.change(5), "0 0 0 0 3");
        desk.name("p");
        desk.move("r");
        Due.is("new by a move", desk.change(6), "2 0 0 0 3");
        Due.is("MOVED", desk.change(7), "0 0 0 3 9");
    }

    private static void alike() {
        Due.by("have at the beginning and at the end the most bytes alike that there are (at the beginning first, then of what is left at the end)");
        replaced("", "", 0, 0, 0);
        replaced("", "a", 0, 0, 1);
        replaced("a", "", 0, 1, 0);
        replaced("a", "a", 1, 0, 0);
        replaced("a", "b", 0, 1, 1);
        replaced("abc", "abc", 3, 0, 0);
        replaced("abc", "abcd", 3, 0, 1);
        replaced("abcd", "abc", 3, 1, 0);
        replaced("bcd", "abcd", 0, 0, 1);
        replaced("abcd", "bcd", 0, 1, 0);
        replaced("aa", "aaa", 2, 0, 1);
        replaced("aaa", "aa", 2, 1, 0);
        replaced("ab", "abab", 2, 0, 2);
        replaced("abab", "ab", 2, 2, 0);
        replaced("aba", "a", 1, 2, 0);
        replaced("a", "aba", 1, 0, 2);
        replaced("abcab", "ab", 2, 3, 0);
        replaced("xay", "xaay", 2, 0, 1);
        replaced("xaay", "xay", 2, 1, 0);
        replaced("xabay", "xay", 2, 2, 0);
        replaced("abc", "xbc", 0, 1, 1);
        replaced("abc", "axc", 1, 1, 1);
        replaced("abc", "abx", 2, 1, 1);
        replaced("abcde", "xbcdy", 0, 5, 5);
        replaced("a b", "A b", 0, 1, 1);
    }

    private static void alikeFull() {
        Due.by("have at the beginning and at the end the most bytes alike that there are");
        String full = "x".repeat(300);
        replaced(full, full, 300, 0, 0);
        replaced(full, full.substring(1), 299, 1, 0);
        replaced(full.substring(1), full, 299, 0, 1);
        replaced(full, "", 0, 300, 0);
        replaced("", full, 0, 0, 300);
        replaced(full, "y".repeat(300), 0, 300, 300);
        replaced(full, "y" + full.substring(1), 0, 1, 1);
        replaced(full, full.substring(1) + "y", 299, 1, 1);
    }

    /** All pairs of short TEXTS, with the most bytes alike found by trying. */
    private static void alikeAll() {
        Due.by("have at the beginning and at the end the most bytes alike that there are (at the beginning first, then of what is left at the end)");
        for (int a = 1; a < 32; a++) {
            for (int b = 1; b < 32; b++) {
                String was = Integer.toBinaryString(a).substring(1);
                String is = Integer.toBinaryString(b).substring(1);
                int start = Math.min(was.length(), is.length());
                while (!is.startsWith(was.substring(0, start))) {
                    start--;
                }
                String wasLeft = was.substring(start);
                String isLeft = is.substring(start);
                int end = Math.min(wasLeft.length(), isLeft.length());
                while (!isLeft.endsWith(wasLeft.substring(wasLeft.length() - end))) {
                    end--;
                }
                replaced(was, is, start, wasLeft.length() - end, isLeft.length() - end);
            }
        }
    }

    private static void blamed(String want, String... texts) {
        Desk desk = new Desk();
        for (String s : texts) {
            desk.put("p", s);
        }
        Due.is("blame behind " + String.join(", ", texts), desk.blame(0), want);
    }

    private static void blame() {
        Due.by("BLAME: bytes alike stay with their CHANGE; the rest is this one's.");
        blamed("", "");
        blamed("1 1", "ab");
        blamed("1 1", "ab", "ab");
        blamed("", "ab", "");
        blamed("3 3", "ab", "", "ab");
        blamed("1 2", "aa", "ab");
        blamed("1 1 2", "aa", "aaa");
        blamed("2 1 1", "ab", "xab");
        blamed("1 2 1", "ab", "axb");
        blamed("1 1 2", "ab", "abx");
        blamed("2 2", "ab", "cd");
        blamed("1 3 1", "abc", "axc", "abc");
        blamed("1 1 3 3", "abab", "ab", "abab");
        blamed("2 2 2", "abc", "xby", "xby");
        blamed("1 2 3 1", "ab", "axb", "axyb");
        blamed("1 3 2 1", "ab", "axb", "ayxb");
    }

    private static void back(int c, String want, String... texts) {
        Desk desk = new Desk();
        for (String s : texts) {
            desk.put("p", s);
        }
        int answer = desk.web.back(c, 0);
        String got = answer < 0 ? "answer " + answer : desk.text(0);
        Due.is("back(" + c + ") behind " + String.join(", ", texts), got, want);
    }

    private static void noneLater() {
        Due.by("what it replaced is put in place of what it brought");
        back(2, "abc", "abc", "abc");
        back(2, "abc", "abc", "axc");
        back(2, "abc", "abc", "xbc");
        back(2, "abc", "abc", "abx");
        back(2, "abc", "abc", "xyz");
        back(2, "abc", "abc", "");
        back(2, "", "", "abc");
        back(2, "", "", "");
        back(2, "abc", "abc", "abcd");
        back(2, "abc", "abc", "ab");
        back(2, "x".repeat(300), "x".repeat(300), "");
        back(2, "", "", "x".repeat(300));
    }

    /** That TEXT with some bytes replaced by as many new ones as are given. */
    private static String with(String s, int from, int to, String bytes) {
        return s.substring(0, from) + bytes + s.substring(to);
    }

    /** No byte stands twice, so that each CHANGE replaces just what it is told to. */
    private static void allPlaces() {
        Due.by("if no later CHANGE of the page replaced anything in that rest or at once beside it (empty rests are places, too)");
        String was = "abcde";
        String[] came = {"", "X", "XY"};
        String[] later = {"", "1", "12"};
        for (int from = 0; from <= 5; from++) {
            for (int to = from; to <= 5; to++) {
                for (String x : came) {
                    for (String y : later) {
                        if (to > from || !x.isEmpty()) {
                            places(was, from, to, x, y);
                        }
                    }
                }
            }
        }
    }

    private static void places(String was, int from, int to, String x, String y) {
        String is = with(was, from, to, x);
        int end = from + x.length();
        for (int a = 0; a <= is.length(); a++) {
            for (int b = a; b <= is.length(); b++) {
                if (a == b && y.isEmpty()) {
                    continue;
                }
                String want = "answer -2";
                String old = was.substring(from, to);
                if (b < from) {
                    want = with(with(is, from, end, old), a, b, y);
                } else if (a > end) {
                    want = with(with(is, a, b, y), from, end, old);
                }
                back(2, want, was, is, with(is, a, b, y));
            }
        }
    }

    private static void severalLater() {
        Due.by("if no later CHANGE of the page replaced anything in that rest or at once beside it");
        back(2, "12abcde34", "abcde", "abXde", "12abXde", "12abXde34");
        back(2, "1abcde", "abcde", "abXde", "12abXde", "1abXde");
        back(2, "bcde", "abcde", "abXde", "bXde");
        back(2, "answer -2", "abcde", "abXde", "bXde", "1Xde");
        back(2, "answer -2", "abcde", "abXde", "abYde", "abXde");
        back(2, "answer -2", "abcde", "abXde", "abX1de", "abXde");
        back(3, "abXde", "abcde", "abXde", "abYde");
        back(2, "answer -2", "abcde", "abXde", "abYde");
        back(2, "abcde12345", "abcde", "aXe", "aXe12345");
        back(3, "aXe", "abcde", "aXe", "aXe12345");
    }

    private static void nothingReplaced() {
        Due.by("(empty rests are places, too)");
        back(2, "answer -2", "abc", "abX", "abX");
        back(2, "answer -2", "abc", "aX", "aX");
        back(2, "answer -2", "ab", "abc", "abc");
        back(2, "answer -2", "abc", "ab", "ab");
        back(2, "answer -2", "abc", "abc", "abc");
        back(2, "answer -2", "", "", "");
        back(2, "abc", "abc", "aXc", "aXc");
        back(2, "ab", "ab", "aXb", "aXb");
        back(2, "aXb", "aXb", "ab", "ab");
        back(3, "aXc", "abc", "aXc", "aXc");
    }

    private static void otherPages() {
        Due.by("no later CHANGE of the page");
        Desk desk = new Desk();
        desk.put("p", "abc");
        desk.put("p", "aXc");
        desk.put("q", "aXc");
        desk.put("q", "aYc");
        desk.gone("q");
        Due.is("another page's do not count", desk.web.back(2, 0), 6);
        Due.is("text", desk.text(0), "abc");
    }

    private static void goneSince() {
        Due.by("and none was GONE since, nor is c's page new by it, or GONE by it");
        Desk desk = new Desk();
        desk.put("p", "abc");
        desk.put("p", "aXc");
        Due.is("new by it", desk.web.back(1, 0), -2);
        desk.gone("p");
        Due.is("not there", desk.web.back(2, 0), -2);
        Due.is("GONE by it, not there", desk.web.back(3, 0), -2);
        desk.put("p", "aXc");
        Due.is("GONE since", desk.web.back(2, 0), -2);
        Due.is("GONE by it", desk.web.back(3, 0), -2);
        Due.is("new again by it", desk.web.back(4, 0), -2);
        desk.put("p", "aYc");
        Due.is("behind all that", desk.web.back(5, 0), 6);
        Due.is("text", desk.text(0), "aXc");
        Due.is("count(0)", desk.web.count(0), 6);
    }

    private static void emptyOnes() {
        Due.by("and none was GONE since, nor is c's page new by it, or GONE by it");
        Desk desk = new Desk();
        desk.put("p", "");
        Due.is("new by it, without bytes", desk.web.back(1, 0), -2);
        desk.gone("p");
        Due.is("GONE by it, without bytes", desk.web.back(2, 0), -2);
        desk.put("p", "");
        Due.is("GONE by it, without bytes", desk.web.back(2, 0), -2);
        Due.is("new again by it", desk.web.back(3, 0), -2);
        desk.put("p", "");
        Due.is("behind it", desk.web.back(4, 0), 5);
    }

    private static void newByMove() {
        Due.by("nor is c's page new by it");
        Desk desk = new Desk();
        desk.put("p", "abc");
        desk.name("p");
        desk.move("q");
        Due.is("the page that a move made", desk.web.back(2, 0), -2);
        Due.is("the page that was MOVED", desk.web.back(3, 0), 4);
        Due.is("text", desk.text(0), "abc");
    }

    public static void main(String[] args) {
        firstOfAPage();
        alike();
        alikeFull();
        alikeAll();
        blame();
        noneLater();
        allPlaces();
        severalLater();
        nothingReplaced();
        otherPages();
        goneSince();
        emptyOnes();
        newByMove();
        Due.exit();
    }
}
