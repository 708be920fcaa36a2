/** The sections "Promise 14" to "18": what is asked of one page, or of the NAME at hand, and when there is no such answer. */
public final class ReadShowBounds {
    private static final int LOW = Integer.MIN_VALUE;
    private static final int HIGH = Integer.MAX_VALUE;
    private static final String SIXTEEN = "abcdefghijklmnop";
    /** No page has these numbers in a web of two pages. */
    private static final int[] NO_PAGES = {LOW, -2, -1, 2, 3, 15, 16, 17, 120, HIGH};

    /** Page 0 was "abc", then a LINK; page 1 came behind it, was GONE and came again. */
    private static Desk two() {
        Desk desk = new Desk();
        desk.put("p", "abc");
        desk.put("p", "[[x]]");
        desk.put("q", "{{p}}");
        desk.gone("q");
        desk.put("q", "y{{p}}");
        return desk;
    }

    private static Desk full() {
        Desk desk = new Desk();
        for (int page = 0; page < 16; page++) {
            desk.put("p" + page, "text " + page);
        }
        return desk;
    }

    private static void names() {
        Due.by("Promise 14: OUT is a page's NAME: how many bytes");
        String[] all = {"a", SIXTEEN, "kind:a", "kind:" + SIXTEEN, "0 9", "kind:a b"};
        Desk desk = new Desk();
        for (int page = 0; page < all.length; page++) {
            desk.put(page % 2 == 0 ? all[page] : " " + all[page].toUpperCase().replace(' ', '_') + "_", "text");
            Due.is("named(" + page + ")", desk.web.named(page), all[page].length());
            Due.is("OUT", desk.out(), all[page]);
        }
        Due.is("one byte of OUT behind the longest", desk.web.named(0) + " " + desk.web.out(1), "1 -1");
        Due.is("the tape is none of it", desk.web.count(4), 0);
    }

    private static void namesNone() {
        Due.by("Promise 14: NONE when it is not there");
        Desk desk = two();
        desk.web.text(1);
        for (int page : NO_PAGES) {
            Due.is("named(" + page + ")", desk.web.named(page), -1);
        }
        int[] second = {-1, -1, -1, 1, -1, 1};
        for (int t = 0; t <= 5; t++) {
            desk.web.as(t);
            if (second[t] < 0) {
                Due.is("not there at " + t, desk.web.named(1), -1);
            }
        }
        Due.is("OUT is as it was", desk.out(), "y{{p}}");
        for (int t = 0; t <= 5; t++) {
            desk.web.as(t);
            Due.is("the first at " + t, desk.web.named(0), t == 0 ? -1 : 1);
            Due.is("the second at " + t, desk.web.named(1), second[t]);
        }
        Desk all = full();
        Due.is("named(15)", all.named(15), "p15");
        Due.is("named(16)", all.web.named(16), -1);
        Due.is("OUT is as it was", all.out(), "p15");
    }

    private static void texts() {
        Due.by("Promise 15: OUT is a page's TEXT: how many bytes");
        Desk desk = new Desk();
        String most = "a" + "\n".repeat(298) + "~";
        for (String s : new String[] {"", "x", "[[A_b|c]] {{D}} $1 #to ", most, ""}) {
            desk.put("p", s);
            Due.is("text(0)", desk.web.text(0), s.length());
            Due.is("count(3)", desk.web.count(3), s.length());
        }
        desk.web.as(4);
        Due.is("of 300 bytes", desk.web.text(0), 300);
        Due.is("the last", desk.web.out(299) + " " + desk.web.out(300), "126 -1");
        desk.web.as(3);
        Due.is("as it was written", desk.text(0), "[[A_b|c]] {{D}} $1 #to ");
    }

    private static void textsNone() {
        Due.by("Promise 15: NONE when it is not there");
        Desk desk = two();
        desk.web.named(0);
        for (int page : NO_PAGES) {
            Due.is("text(" + page + ")", desk.web.text(page), -1);
        }
        for (int t : new int[] {0, 1, 2, 4}) {
            desk.web.as(t);
            Due.is("not there at " + t, desk.web.text(1), -1);
        }
        Due.is("OUT is as it was", desk.out(), "p");
        String[] first = {"answer -1", "abc", "[[x]]", "[[x]]", "[[x]]", "[[x]]"};
        String[] second = {"answer -1", "answer -1", "answer -1", "{{p}}", "answer -1", "y{{p}}"};
        for (int t = 0; t <= 5; t++) {
            desk.web.as(t);
            Due.is("the first at " + t, desk.text(0), first[t]);
            Due.is("the second at " + t, desk.text(1), second[t]);
        }
        Desk all = full();
        Due.is("text(15)", all.text(15), "text 15");
        Due.is("text(16)", all.web.text(16), -1);
    }

    private static void reads() {
        Due.by("Promise 16: how many LINKS (what 0), SHOWINGS (1), plain bytes (2) it has");
        Desk desk = new Desk();
        String[] all = {"", "x", "[[a]]", "{{a}}", "[[kind:k]][[a]][[a]]{{a}}{{a|w}}xy", "[[a]]".repeat(60), "{{a}}".repeat(60),
            "x".repeat(300)};
        String[] want = {"0 0 0", "0 0 1", "1 0 0", "0 1 0", "3 2 2", "60 0 0", "0 60 0", "0 0 300"};
        for (int k = 0; k < all.length; k++) {
            desk.put("p", all[k]);
            Due.is("read of " + all[k], reading(desk), want[k]);
        }
        for (int k = 0; k < all.length; k++) {
            desk.web.as(k + 1);
            Due.is("read at TIME " + (k + 1), reading(desk), want[k]);
        }
        desk.web.as(0);
        Due.is("at TIME 0", reading(desk), "-1 -1 -1");
    }

    private static String reading(Desk desk) {
        return desk.web.read(0, 0) + " " + desk.web.read(0, 1) + " " + desk.web.read(0, 2);
    }

    private static void readsMoved() {
        Due.by("Promise 16: the page it is MOVED to (3; -2 if there is none of that NAME; NONE if it is not MOVED)");
        Desk desk = new Desk();
        desk.put("a", "#to [[b]]");
        Due.is("to none", desk.web.read(0, 3), -2);
        desk.put("b", "#to [[C]]");
        Due.is("to the next, not ONWARD", desk.web.read(0, 3), 1);
        desk.put("c", "text");
        Due.is("the next too", desk.web.read(1, 3), 2);
        Due.is("not MOVED", desk.web.read(2, 3), -1);
        Due.is("a LINK and 4 plain bytes", desk.web.read(0, 0) + " " + desk.web.read(0, 1) + " " + desk.web.read(0, 2), "1 0 4");
        desk.put("c", "#to [[c]]");
        Due.is("to itself", desk.web.read(2, 3), 2);
        desk.gone("b");
        Due.is("to one that is GONE", desk.web.read(0, 3), -2);
        Due.is("of one that is GONE", desk.web.read(1, 3), -1);
        int[] at = {-1, -2, 1, 1, 1, -2};
        for (int t = 0; t <= 5; t++) {
            desk.web.as(t);
            Due.is("at TIME " + t, desk.web.read(0, 3), at[t]);
        }
    }

    private static void readsNone() {
        Due.by("Promise 16: NONE when it is not there, or for others.");
        Desk desk = two();
        desk.web.text(0);
        for (int what = -1; what <= 4; what++) {
            for (int page : NO_PAGES) {
                Due.is("read(" + page + ", " + what + ")", desk.web.read(page, what), -1);
            }
        }
        for (int what : new int[] {LOW, -2, -1, 4, 5, HIGH}) {
            Due.is("read(0, " + what + ")", desk.web.read(0, what), -1);
        }
        int[] plain = {-1, -1, -1, 0, -1, 1};
        for (int t = 0; t <= 5; t++) {
            desk.web.as(t);
            Due.is("the second at " + t, desk.web.read(1, 2), plain[t]);
        }
        Due.is("OUT is as it was", desk.out(), "[[x]]");
        Desk all = full();
        Due.is("read(15, 2)", all.web.read(15, 2), 7);
        Due.is("read(16, 2)", all.web.read(16, 2), -1);
    }

    private static void shows() {
        Due.by("Promise 17: OUT is a page's MADE text, without WORDS: how many bytes");
        Desk desk = new Desk();
        desk.put("p", "");
        Due.is("of no bytes", desk.web.show(0), 0);
        Due.is("OUT", desk.out(), "");
        desk.put("p", "$1[[a|$9]]{{m|$1}}");
        desk.put("m", "<$1$2>");
        Due.is("of a page whose $ stay", desk.show(0), "$1$9<$1$2>");
        desk.put("r", "#to [[m]]");
        Due.is("of one that is MOVED, its own", desk.show(2), "#to m");
        desk.put("kind:k", "[[kind:k]]of a KIND");
        Due.is("of a KIND's", desk.show(3), "of a KIND");
        desk.put("p", "{{kind:k}}{{r|w}}");
        Due.is("of others in it", desk.show(0), "of a KIND<w$2>");
        Due.is("the same again", desk.show(0), "of a KIND<w$2>");
        desk.web.as(2);
        Due.is("at a TIME of no m", desk.show(0), "$1$9?m?");
        desk.web.as(1);
        Due.is("at the first TIME", desk.show(0), "");
        desk.web.as(5);
        Due.is("at a TIME without the last CHANGE", desk.show(0), "$1$9<$1$2>");
    }

    private static void showsNone() {
        Due.by("Promise 17: -1 it is not there");
        Desk desk = two();
        desk.web.named(0);
        for (int page : NO_PAGES) {
            Due.is("show(" + page + ")", desk.web.show(page), -1);
        }
        for (int t : new int[] {0, 1, 2, 4}) {
            desk.web.as(t);
            Due.is("not there at " + t, desk.web.show(1), -1);
        }
        Due.is("OUT is as it was", desk.out(), "p");
        desk.web.as(3);
        Due.is("there at 3", desk.show(1), "x");
        desk.web.as(5);
        Due.is("there at 5", desk.show(1), "yx");
        Desk all = full();
        Due.is("show(15)", all.show(15), "text 15");
        Due.is("show(16)", all.web.show(16), -1);
    }

    private static void showsSpent() {
        Due.by("Promise 17: -2 SPENT (OUT stays)");
        Desk desk = new Desk();
        desk.put("m", "x".repeat(250));
        desk.put("p", "{{m}}".repeat(8) + "y");
        desk.put("w", "{{v|" + "x".repeat(250) + "}}");
        desk.put("v", "{{e|" + "$1".repeat(8) + "y}}");
        desk.put("e", "");
        desk.put("t", "{{e}}".repeat(20));
        desk.put("s", "{{t}}".repeat(19) + "{{e}}".repeat(2));
        desk.web.named(4);
        for (int page : new int[] {1, 2, 6}) {
            Due.is("show(" + page + ")", desk.web.show(page), -2);
            Due.is("OUT stays", desk.out(), "e");
        }
        Due.is("and what is not SPENT", desk.web.show(0), 250);
        Due.is("t alone", desk.web.show(5), 0);
        desk.put("s", "{{t}}".repeat(19) + "{{e}}");
        Due.is("s with a SHOWING less", desk.web.show(6), 0);
        desk.put("p", "{{m}}".repeat(8));
        Due.is("p with a byte less", desk.web.show(1), 2000);
        desk.put("v", "{{e|" + "$1".repeat(8) + "}}");
        Due.is("w with a byte less", desk.show(2), "");
        desk.web.as(7);
        Due.is("as it was", desk.web.show(1) + " " + desk.web.show(2) + " " + desk.web.show(6), "-2 -2 -2");
    }

    private static void onwards() {
        Due.by("Promise 18: The page that comes ONWARD from the NAME at hand; -1 no NAME at hand; -2 there is none in the end; -3 a ring.");
        Desk desk = new Desk();
        Due.is("no NAME at hand", desk.web.onward(), -1);
        desk.name("!");
        Due.is("what is no NAME", desk.web.onward(), -1);
        desk.name("a");
        Due.is("no page", desk.web.onward(), -2);
        desk.write("text");
        Due.is("its own page", desk.web.onward(), 0);
        desk.write("#to [[b]]");
        Due.is("to none", desk.web.onward(), -2);
        desk.put("b", "text");
        Due.is("at the end of the way", desk.web.onward(), 1);
        desk.name("a");
        Due.is("by one move", desk.web.onward(), 1);
        desk.put("b", "#to [[c]]");
        desk.name("a");
        Due.is("by two moves to none", desk.web.onward(), -2);
        desk.put("c", "#to [[b]]");
        desk.name("a");
        Due.is("into a ring", desk.web.onward(), -3);
        desk.gone("c");
        desk.name("a");
        Due.is("to one that is GONE", desk.web.onward(), -2);
        int[] at = {-2, 0, -2, 1, -2, -3, -2};
        for (int t = 0; t <= 6; t++) {
            desk.web.as(t);
            Due.is("at TIME " + t, desk.web.onward(), at[t]);
        }
    }

    private static void onwardKinds() {
        Due.by("Promise 18: The page that comes ONWARD from the NAME at hand");
        Desk desk = new Desk();
        desk.put("kind:k", "#to [[a]]");
        Due.is("from a KIND to none", desk.web.onward(), -2);
        desk.put("a", "#to [[kind:k]]");
        desk.name("kind:k");
        Due.is("a LINK to a KIND leads nowhere", desk.web.onward(), 1);
        desk.put("kind:k", "[[a]]");
        desk.name("kind:k");
        Due.is("its own page", desk.web.onward(), 0);
        desk.name("k");
        Due.is("another NAME", desk.web.onward(), -2);
    }

    public static void main(String[] args) {
        names();
        namesNone();
        texts();
        textsNone();
        reads();
        readsMoved();
        readsNone();
        shows();
        showsNone();
        showsSpent();
        onwards();
        onwardKinds();
        Due.exit();
    }
}
