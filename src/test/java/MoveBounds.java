/** The sections "Promise 8" and "Promise 9": what move() and rename() refuse, and what they just do not. */
public final class MoveBounds {
    private static final String LONG_NAME = "abcdefghijklmnop";

    /** "b" is MOVED to "a", "c" has LINKS to it; "a" is at hand, and there is something OUT and FOUND. */
    private static Desk some() {
        Desk desk = new Desk();
        desk.put("a", "text of a");
        desk.put("b", "#to [[a]]");
        desk.put("c", "[[a]] and [[A|b]]");
        desk.put("kind:k", "x");
        desk.name("a");
        desk.web.from(false);
        desk.web.text(0);
        return desk;
    }

    /** What one of both calls answers for a NAME on the tape. */
    private static int call(Desk desk, boolean links, String goal, int hand) {
        desk.tape(goal);
        return links ? desk.web.rename(hand) : desk.web.move(hand);
    }

    private static String texts(Desk desk, int pages) {
        StringBuilder all = new StringBuilder();
        for (int page = 0; page < pages; page++) {
            all.append(page == 0 ? "" : ", ").append(desk.text(page));
        }
        return all.toString();
    }

    /** The pages of the CHANGES from one on. */
    private static String order(Desk desk, int from) {
        StringBuilder all = new StringBuilder();
        for (int c = from; c <= desk.web.count(0); c++) {
            all.append(c == from ? "" : " ").append(desk.web.change(c, 0));
        }
        return all.toString();
    }

    private static void movesAll() {
        Due.by("Promise 8: that one's page (a new one, if there is none) gets its TEXT, it is MOVED there itself, and each page (in order, as they are then) that was MOVED to the old NAME to the new one: as many CHANGES: how many");
        Desk desk = some();
        desk.tape(" New_A");
        Due.is("move", desk.web.move(9), 3);
        Due.is("the tape is no more", desk.web.count(4), 0);
        Due.is("TEXTS", texts(desk, 5), "#to [[new a]], #to [[new a]], [[a]] and [[A|b]], x, text of a");
        Due.is("in order", order(desk, 5), "4 0 1");
        Due.is("HANDS", desk.web.change(5, 1) + " " + desk.web.change(6, 1) + " " + desk.web.change(7, 1), "9 9 9");
        Due.is("the NAME at hand is as it was", desk.web.onward(), 4);
        Desk alone = new Desk();
        alone.put("a", "");
        Due.is("nothing is MOVED to it, no bytes", alone.move("b"), 2);
        Due.is("TEXTS", texts(alone, 2), "#to [[b]], ");
    }

    private static void movesMany() {
        Due.by("Promise 8: each page (in order, as they are then) that was MOVED to the old NAME to the new one");
        Desk desk = new Desk();
        String[] texts = {"#to [[m]]", "#to [[M|label]]", "#to [[ m ]]", "#to [[m]] ", "[[m]]", "#to {{m}}", "#to [[n]]", "text"};
        for (int page = 0; page < texts.length; page++) {
            desk.put(page == 7 ? "m" : "p" + page, texts[page]);
        }
        desk.put("kind:k", "#to [[m]]");
        desk.name("m");
        Due.is("move", desk.move("q"), 6);
        Due.is("TEXTS", texts(desk, 10),
            "#to [[q]], #to [[q]], #to [[q]], #to [[m]] , [[m]], #to {{m}}, #to [[n]], #to [[q]], #to [[q]], text");
        Due.is("in order", order(desk, 10), "9 7 0 1 2 8");
    }

    private static void movesMost() {
        Due.by("Promise 8: each page (in order, as they are then) that was MOVED to the old NAME to the new one");
        Desk desk = new Desk();
        for (int page = 0; page < 14; page++) {
            desk.put("p" + page, "#to [[m]]");
        }
        desk.put("m", "x");
        Due.is("14 that are MOVED there", desk.move("q"), 16);
        Due.is("in order", order(desk, 16), "15 14 0 1 2 3 4 5 6 7 8 9 10 11 12 13");
        Due.is("all of them", desk.web.from(false) + " " + desk.name("q") + " " + desk.web.from(false), "0 15 15");
    }

    private static void movesAsThen() {
        Due.by("Promise 8: (in order, as they are then)");
        Desk desk = new Desk();
        desk.put("w", "#to [[w]]");
        Due.is("a page MOVED to itself", desk.move("v"), 3);
        Due.is("TEXTS", texts(desk, 2), "#to [[v]], #to [[v]]");
        Due.is("in order", order(desk, 2), "1 0 1");
        Desk low = new Desk();
        low.put("v", "");
        low.put("b", "#to [[w]]");
        low.put("w", "#to [[w]]");
        low.gone("v");
        low.name("w");
        Due.is("to a lower number", low.move("v"), 4);
        Due.is("in order", order(low, 5), "0 2 0 1");
        Desk there = new Desk();
        there.put("a", "#to [[b]]");
        Due.is("MOVED there already", there.move("b"), 2);
        Due.is("TEXTS", texts(there, 2), "#to [[b]], #to [[b]]");
    }

    private static void goneGoal() {
        Due.by("Promise 8: that one's page (a new one, if there is none) gets its TEXT");
        Desk desk = some();
        desk.gone("c");
        desk.name("a");
        Due.is("to a NAME whose page is GONE", desk.move("c"), 3);
        Due.is("it has its number", desk.name("c"), 2);
        Due.is("TEXT", desk.text(2), "text of a");
        Due.is("nothing was replaced", desk.change(6), "2 0 0 0 9");
        Due.is("blame", desk.web.blame(2, 0), 6);
        desk.name("a");
        Due.is("to a new NAME", desk.move("d"), 2);
        Due.is("its number", desk.name("d"), 4);
    }

    private static void refusedOnce(boolean links) {
        Due.by(links ? "Promise 9: As move()" : "Promise 8: -1 likewise; -2 it is no NAME, the same, of a page that is there, or one of both is a KIND");
        Desk desk = some();
        String before = desk.state();
        for (int hand : new int[] {Integer.MIN_VALUE, -1, 10, Integer.MAX_VALUE}) {
            Due.is("HAND " + hand, call(desk, links, "d", hand), -1);
            Due.is("the tape is no more", desk.web.count(4), 0);
        }
        String[] goals = {"", " ", "!", LONG_NAME + "q", "kind:", "a", "_A_", "b", "c", "kind:k", "kind:z", "kind:a"};
        for (String goal : goals) {
            Due.is("to \"" + goal + "\"", call(desk, links, goal, 0), -2);
            Due.is("the tape is no more", desk.web.count(4), 0);
        }
        Due.is("-1 before -2", call(desk, links, "!", 10), -1);
        Due.is("all is as it was", desk.state(), before);
        Due.is("TEXTS too", texts(desk, 4), "text of a, #to [[a]], [[a]] and [[A|b]], x");
        desk.name("kind:k");
        Due.is("of a KIND", call(desk, links, "d", 0), -2);
        desk.name("kind:none");
        Due.is("of no page of a KIND", call(desk, links, "d", 0), -1);
        desk.name("none");
        Due.is("of no page", call(desk, links, "d", 0), -1);
        Due.is("to itself, of no page", call(desk, links, "none", 0), -1);
        Due.is("count(0)", desk.web.count(0), 4);
        Due.is("no page came", desk.name("d"), -2);
    }

    private static void longestName(boolean links) {
        Due.by("Promise 8: The tape (it goes) is a NAME, to which the page of the NAME at hand is moved");
        Desk desk = some();
        Due.is("of 16 bytes", call(desk, links, LONG_NAME, 0), links ? 4 : 3);
        Due.is("TEXT", desk.text(0), "#to [[" + LONG_NAME + "]]");
        Due.is("onward", desk.web.onward(), 4);
        desk.name(LONG_NAME);
        Due.is("and back to one of one byte", call(desk, links, "z", 0), links ? 5 : 4);
        Due.is("TEXT", desk.text(0), "#to [[z]]");
    }

    private static void atTheLatest(boolean links) {
        Due.by("Promise 8: All at the latest TIME.");
        Desk desk = some();
        desk.web.as(0);
        Due.is("at TIME 0 there is no page", call(desk, links, "d", 0), links ? 4 : 3);
        desk.web.as(4);
        desk.name("d");
        Due.is("d is there, not at TIME 4", desk.web.onward(), -2);
        Due.is("of d all the same", call(desk, links, "e", 0), links ? 5 : 4);
        desk.name("e");
        Due.is("to c, which is there", call(desk, links, "c", 0), -2);
        desk.web.as(-1);
        desk.gone("b");
        desk.web.as(4);
        desk.name("b");
        Due.is("b is GONE, not at TIME 4", call(desk, links, "f", 0), -1);
    }

    private static void changesMost() {
        Due.by("Promise 8: -3 there would be too many CHANGES or pages");
        for (int moved = 0; moved <= 3; moved++) {
            Desk just = filled(moved, 0, 118 - moved);
            Due.is(moved + " MOVED there, just fitting", just.move("b"), 2 + moved);
            Due.is("count(0)", just.web.count(0), 120);
            Desk over = filled(moved, 0, 119 - moved);
            Due.is(moved + " MOVED there, one too many", over.move("b"), -3);
            nothingDone(over, 119 - moved, moved);
        }
    }

    private static void renameChangesMost() {
        Due.by("Promise 9: As move(); then of each page .. one CHANGE a page");
        for (int moved = 0; moved <= 2; moved++) {
            for (int linking = 0; linking <= 2; linking++) {
                int more = moved + linking;
                Desk just = filled(moved, linking, 118 - more);
                Due.is(more + " behind the move, just fitting", just.rename("b"), 2 + more);
                Due.is("count(0)", just.web.count(0), 120);
                Desk over = filled(moved, linking, 119 - more);
                Due.is(more + " behind the move, one too many", over.rename("b"), -3);
                nothingDone(over, 119 - more, more);
            }
        }
    }

    /** So many CHANGES, the last one giving "a", which is at hand, the TEXT "y"; other pages are MOVED there or have a LINK. */
    private static Desk filled(int moved, int linking, int changes) {
        Desk desk = new Desk();
        for (int k = 0; k < moved; k++) {
            desk.put("m" + k, "#to [[a]]");
        }
        for (int k = 0; k < linking; k++) {
            desk.put("l" + k, "see [[a]]");
        }
        desk.name("a");
        desk.fillTo(changes - 1);
        desk.write("y");
        return desk;
    }

    private static void nothingDone(Desk desk, int changes, int page) {
        Due.is("no CHANGE", desk.web.count(0), changes);
        Due.is("the tape is no more", desk.web.count(4), 0);
        Due.is("the old TEXT", desk.text(page), "y");
        Due.is("no page", desk.name("b"), -2);
        Due.is("no number was given", desk.put("c", "") + " " + desk.name("c"), (changes + 1) + " " + (page + 1));
    }

    private static void pagesMost(boolean links) {
        Due.by("Promise 8: -3 there would be too many CHANGES or pages");
        Desk desk = new Desk();
        for (int page = 0; page < 15; page++) {
            desk.name("p" + page);
            desk.web.write(0);
        }
        desk.name("p0");
        Due.is("a 16th page", call(desk, links, "q", 0), 2);
        desk.name("p1");
        desk.web.text(0);
        String before = desk.state();
        Due.is("a 17th page", call(desk, links, "r", 0), -3);
        Due.is("no NAME before that", call(desk, links, "!", 0), -2);
        Due.is("no HAND before that", call(desk, links, "r", 10), -1);
        Due.is("all is as it was", desk.state(), before);
        desk.gone("p2");
        desk.name("p1");
        Due.is("a GONE one's number is not free", call(desk, links, "r", 0), -3);
        Due.is("but for its NAME", call(desk, links, "p2", 0), 2);
    }

    private static void renamesLinks() {
        Due.by("Promise 9: then of each page, in order, that has LINKS to the old NAME then: in its TEXT what is inside of these LINKS up to the first | (or all) becomes the new NAME, FOLDED, by one CHANGE a page: how many CHANGES in all");
        Desk desk = some();
        desk.tape(" NEW__One ");
        Due.is("rename", desk.web.rename(9), 4);
        Due.is("the tape is no more", desk.web.count(4), 0);
        Due.is("TEXTS", texts(desk, 5), "#to [[new one]], #to [[new one]], [[new one]] and [[new one|b]], x, text of a");
        Due.is("in order", order(desk, 5), "4 0 1 2");
        Due.is("HAND", desk.web.change(8, 1), 9);
        Due.is("the NAME at hand is as it was", desk.web.onward(), 4);
        Due.is("what the last one replaced", desk.change(8), "2 9 2 11 23");
    }

    /** What becomes of a TEXT if "a" is renamed to "new"; null if there is no CHANGE of it. */
    private static void renamed(String text, String want) {
        Desk desk = new Desk();
        desk.put("p", text);
        desk.put("a", "");
        Due.is("rename with \"" + text + "\"", desk.rename("New"), want == null ? 2 : 3);
        Due.is("TEXT", desk.text(0), want == null ? text : want);
    }

    private static void renamesWhat() {
        Due.by("Promise 9: in its TEXT what is inside of these LINKS up to the first | (or all) becomes the new NAME, FOLDED");
        renamed("[[a]]", "[[new]]");
        renamed("[[ _A_ ]]", "[[new]]");
        renamed("[[a|]]", "[[new|]]");
        renamed("[[a | a|A ]]", "[[new| a|A ]]");
        renamed("[[a]][[a]]x[[b]]", "[[new]][[new]]x[[b]]");
        renamed("[[[a]]]", "[[[new]]]");
        renamed("{{x|[[a]]}}", "{{x|[[new]]}}");
        renamed("#to [[a]]x", "#to [[new]]x");
        renamed("#to [[a|l]] ", "#to [[new|l]] ");
        renamed("{{a}}", null);
        renamed("{{a|a}}", null);
        renamed("[[b|a]]", null);
        renamed("[[ab]]", null);
        renamed("[[kind:a]]", null);
        renamed("[[a]", null);
        renamed("a", null);
        renamed("", null);
    }

    private static void renamesItself() {
        Due.by("Promise 9: of each page, in order, that has LINKS to the old NAME then");
        Desk desk = new Desk();
        desk.put("a", "I, [[a]]");
        Due.is("a page with a LINK to itself", desk.rename("b"), 3);
        Due.is("TEXTS", texts(desk, 2), "#to [[b]], I, [[b]]");
        Due.is("in order", order(desk, 2), "1 0 1");
        Desk ring = new Desk();
        ring.put("w", "#to [[w|label]]");
        Due.is("a page MOVED to itself", ring.rename("v"), 3);
        Due.is("TEXTS", texts(ring, 2), "#to [[v]], #to [[v]]");
        Due.is("in order", order(ring, 2), "1 0 1");
    }

    private static void longestText() {
        Due.by("Promise 9: -2 also if a TEXT would be too long");
        String x = "x";
        fits("a", "[[a]]" + x.repeat(294), "bc");
        tooLong("a", "[[a]]" + x.repeat(295), "bc");
        fits("a", "[[a]]" + x.repeat(295), "b");
        fits("a", x.repeat(280) + "[[a]]", LONG_NAME);
        tooLong("a", x.repeat(281) + "[[a]]", LONG_NAME);
        fits("a", "[[a]]" + x.repeat(288) + "[[a]]", "bc");
        tooLong("a", "[[a]]" + x.repeat(289) + "[[a]]", "bc");
        fits("a", "[[a]]".repeat(60), "b");
        tooLong("a", "[[a]]".repeat(60), "bc");
        fits("a", "[[a|" + x.repeat(293) + "]]", "bc");
        tooLong("a", "[[a|" + x.repeat(294) + "]]", "bc");
        fits("ab", "[[ab]]" + x.repeat(294), "b");
        fits("a", "[[__a__]]" + x.repeat(291), "bcdef");
        tooLong("a", "[[__a__]]" + x.repeat(291), "bcdefg");
        fits("a", "{{a}}" + x.repeat(290) + "[[b]]", LONG_NAME);
    }

    private static Desk linking(String old, String text) {
        Desk desk = new Desk();
        desk.put("p", text);
        desk.put(old, "y");
        return desk;
    }

    private static void fits(String old, String text, String goal) {
        Desk desk = linking(old, text);
        Due.is("rename of " + old + " to " + goal + " with \"" + text + "\"", desk.rename(goal), text.contains("{{") ? 2 : 3);
        Due.is("at most 300 bytes", desk.web.text(0) <= 300, true);
    }

    private static void tooLong(String old, String text, String goal) {
        Desk desk = linking(old, text);
        String before = desk.state();
        Due.is("rename of " + old + " to " + goal + " with \"" + text + "\"", desk.rename(goal), -2);
        Due.is("all is as it was", desk.state(), before);
        Due.is("TEXT too", desk.web.text(0), text.length());
        Due.is("the old page's too", desk.text(1), "y");
        Due.is("no page", desk.name(goal), -2);
        desk.name(old);
        Due.is("move() does not mind", desk.move(goal), 2);
    }

    private static void longestOwnText() {
        Due.by("Promise 9: -2 also if a TEXT would be too long");
        Desk desk = new Desk();
        desk.put("a", "[[a]]" + "x".repeat(295));
        Due.is("its own", desk.rename("bc"), -2);
        Due.is("count(0)", desk.web.count(0), 1);
        desk.put("a", "[[a]]" + "x".repeat(294));
        Due.is("its own, just fitting", desk.rename("bc"), 3);
        Due.is("text", desk.web.text(1), 300);
    }

    public static void main(String[] args) {
        movesAll();
        movesMany();
        movesMost();
        movesAsThen();
        goneGoal();
        refusedOnce(false);
        refusedOnce(true);
        longestName(false);
        longestName(true);
        atTheLatest(false);
        atTheLatest(true);
        changesMost();
        renameChangesMost();
        pagesMost(false);
        pagesMost(true);
        renamesLinks();
        renamesWhat();
        renamesItself();
        longestText();
        longestOwnText();
        Due.exit();
    }
}
