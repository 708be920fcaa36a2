import java.util.List;

/** The bounds that the document tells under "Terms" II: CHANGES, pages, TIMES, ONWARD, MADE texts and KINDS above. */
public final class TimeMadeBounds {
    private static void changesMost() {
        Due.by("CHANGES are numbered from 1 on (120 at most)");
        Desk desk = new Desk();
        desk.name("a");
        for (int c = 1; c <= 120; c++) {
            Due.is("write", desk.web.write(0), c);
        }
        Due.is("a 121st", desk.web.write(0), -3);
        Due.is("by gone()", desk.web.gone(0), -3);
        Due.is("by move()", desk.move("b"), -3);
        Due.is("by rename()", desk.rename("b"), -3);
        Due.is("by back()", desk.web.back(120, 0), -3);
        Due.is("count(0)", desk.web.count(0), 120);
        Due.is("count(1)", desk.web.count(1), 1);
        Due.is("change(120)", desk.web.change(120, 0), 0);
        Due.is("change(121)", desk.web.change(121, 0), -1);
        Due.is("change(0)", desk.web.change(0, 0), -1);
        Due.is("as(120)", desk.web.as(120), true);
        Due.is("as(121)", desk.web.as(121), false);
        Due.is("no page of the refused NAME", desk.name("b"), -2);
    }

    private static void lastChange() {
        Due.by("CHANGES are numbered from 1 on (120 at most)");
        Desk gone = new Desk();
        gone.name("a");
        gone.fillTo(119);
        Due.is("gone() as the 120th", gone.web.gone(0), 120);
        Due.is("none behind it", gone.web.write(0), -3);
        Desk back = new Desk();
        back.put("a", "abc");
        back.put("a", "aXc");
        back.name("b");
        back.fillTo(119);
        Due.is("back() as the 120th", back.web.back(2, 0), 120);
        Due.is("text", back.text(0), "abc");
        Due.is("none behind it", back.web.back(120, 0), -3);
        Due.is("text", back.text(0), "abc");
    }

    private static void pagesMost() {
        Due.by("each gives a page (16 at most; as they came, from 0 on) a TEXT");
        Desk desk = new Desk();
        for (int page = 0; page < 16; page++) {
            desk.name("p" + page);
            Due.is("write", desk.web.write(0), page + 1);
            Due.is("its page", desk.web.change(page + 1, 0), page);
        }
        desk.name("q");
        Due.is("a 17th by write()", desk.web.write(0), -3);
        Due.is("of which there is none", desk.name("q"), -2);
        Due.is("page 15", desk.name("p15"), 15);
        Due.is("a 17th by move()", desk.move("q"), -3);
        Due.is("a 17th by rename()", desk.rename("q"), -3);
        Due.is("count(0)", desk.web.count(0), 16);
        Due.is("count(1)", desk.web.count(1), 16);
        Due.is("named(15)", desk.named(15), "p15");
        Due.is("named(16)", desk.web.named(16), -1);
        Due.is("the 16th may be written again", desk.write("x"), 17);
        Due.is("and the first", desk.put("p0", "y"), 18);
        Due.is("count(1)", desk.web.count(1), 16);
    }

    private static void pagesByMove() {
        Due.by("each gives a page (16 at most; as they came, from 0 on) a TEXT");
        Desk desk = new Desk();
        for (int page = 0; page < 14; page++) {
            desk.name("p" + page);
            desk.web.write(0);
        }
        Due.is("a 15th by move()", desk.move("q"), 2);
        Due.is("its number", desk.name("q"), 14);
        Due.is("a 16th by rename()", desk.rename("r"), 3);
        Due.is("its number", desk.name("r"), 15);
        Due.is("a 17th", desk.move("s"), -3);
        Due.is("none", desk.name("s"), -2);
    }

    private static void numbersKept() {
        Due.by("GONE (as if it had never been; its number stays its own)");
        Desk desk = new Desk();
        for (int page = 0; page < 16; page++) {
            desk.name("p" + page);
            desk.web.write(0);
        }
        desk.gone("p3");
        Due.is("a new page has no number", desk.put("q", ""), -3);
        Due.is("nor by move()", desk.name("p4") + " " + desk.move("q"), "4 -3");
        Due.is("its own NAME has", desk.put("p3", "x"), 18);
        Due.is("it", desk.name("p3"), 3);
        desk.gone("p3");
        desk.name("p4");
        Due.is("by move() too", desk.move("p3"), 2);
        Due.is("it", desk.name("p3"), 3);
        Due.is("count(1)", desk.web.count(1), 16);
    }

    private static void asNeverBeen() {
        Due.by("lets it be GONE (as if it had never been; its number stays its own)");
        Desk desk = new Desk();
        desk.put("a", "[[x]] [[kind:k]] {{b}}");
        desk.put("b", "#to [[a]]");
        desk.put("kind:k", "[[kind:m]]");
        desk.put("c", "{{b}}[[a]][[kind:k]]");
        desk.gone("a");
        desk.gone("kind:k");
        Due.is("count(1)", desk.web.count(1), 2);
        Due.is("name", desk.name("a"), -2);
        Due.is("onward", desk.web.onward(), -2);
        Due.is("named", desk.web.named(0), -1);
        Due.is("text", desk.web.text(0), -1);
        Due.is("read", desk.web.read(0, 2), -1);
        Due.is("show", desk.web.show(0), -1);
        Due.is("within", desk.web.within(0), -1);
        Due.is("blame", desk.web.blame(0, 0), -1);
        Due.is("where b is MOVED to", desk.web.read(1, 3), -2);
        Due.is("where it was shown", desk.show(3), "?b?a");
        Due.is("wanted", desk.web.wanted(), 1);
        Due.is("wanted", desk.out(), "a\n");
        Due.is("touch", desk.web.touch(), 1);
        Due.is("touched", desk.found(), List.of(3));
        Due.is("KINDS above c", desk.web.within(3), 1);
        desk.name("kind:m");
        Due.is("members", desk.web.members(1), 0);
        desk.name("x");
        Due.is("from", desk.web.from(true), 0);
        Due.is("gone again", desk.gone("a"), -1);
        Due.is("at the TIME before", desk.web.as(4) + " " + desk.name("a") + " " + desk.web.count(1), "true 0 4");
    }

    private static void neverBeenBefore() {
        Due.by("lets it be GONE (as if it had never been; its number stays its own)");
        Desk desk = new Desk();
        desk.put("a", "abc");
        desk.put("b", "");
        desk.gone("a");
        Due.is("what it replaced", desk.change(3), "0 0 0 3 0");
        Due.is("written again", desk.put("a", "abd"), 4);
        Due.is("nothing was replaced", desk.change(4), "0 0 0 0 3");
        Due.is("blame", desk.blame(0), "4 4 4");
        Due.is("its number", desk.name("a"), 0);
        desk.put("b", "x");
        desk.gone("b");
        Due.is("an empty TEXT is not GONE", desk.put("a", "") + " " + desk.name("a") + " " + desk.web.text(0), "7 0 0");
    }

    private static void timeZero() {
        Due.by("TIME t: as it was behind CHANGE t (0: no page)");
        Desk desk = new Desk();
        desk.put("a", "[[b]]{{c}}[[kind:k]]");
        Due.is("as(0)", desk.web.as(0), true);
        Due.is("count(1)", desk.web.count(1), 0);
        Due.is("name", desk.name("a"), -2);
        Due.is("onward", desk.web.onward(), -2);
        Due.is("named", desk.web.named(0), -1);
        Due.is("text", desk.web.text(0), -1);
        Due.is("read", desk.web.read(0, 0), -1);
        Due.is("show", desk.web.show(0), -1);
        Due.is("within", desk.web.within(0), -1);
        Due.is("blame", desk.web.blame(0, 0), -1);
        Due.is("wanted", desk.web.wanted(), 0);
        Due.is("touch", desk.web.touch(), 0);
        desk.name("b");
        Due.is("from", desk.web.from(true), 0);
        desk.name("kind:k");
        Due.is("members", desk.web.members(1), 0);
        Due.is("as(1)", desk.web.as(1), true);
        Due.is("members", desk.web.members(1), 1);
        Due.is("text", desk.web.text(0), 20);
    }

    private static void everyTime() {
        Due.by("TIME t: as it was behind CHANGE t");
        Desk desk = new Desk();
        desk.put("a", "1");
        desk.put("a", "22");
        desk.put("b", "{{a}}{{a}}");
        desk.gone("a");
        desk.put("a", "333");
        int[] lengths = {-1, 1, 2, 2, -1, 3};
        int[] shows = {-1, -1, -1, 4, 6, 6};
        int[] there = {0, 1, 1, 2, 1, 2};
        for (int t = 0; t <= 5; t++) {
            Due.is("as(" + t + ")", desk.web.as(t), true);
            Due.is("text at " + t, desk.web.text(0), lengths[t]);
            Due.is("show at " + t, desk.web.show(1), shows[t]);
            Due.is("count(1) at " + t, desk.web.count(1), there[t]);
        }
        Due.is("as(6)", desk.web.as(6), false);
        Due.is("TIME 5 still", desk.web.text(0), 3);
    }

    private static void latestAtFirst() {
        Due.by("Questions are answered for the TIME told with as(), at first (and by NONE) the latest one.");
        Desk desk = new Desk();
        desk.put("a", "1");
        Due.is("at first", desk.text(0), "1");
        desk.put("a", "22");
        Due.is("the latest goes on", desk.text(0), "22");
        desk.web.as(2);
        desk.put("a", "333");
        Due.is("TIME 2 does not", desk.text(0), "22");
        desk.web.as(PageWeb.NONE);
        Due.is("by NONE the latest", desk.text(0), "333");
        desk.put("a", "4444");
        Due.is("which goes on", desk.text(0), "4444");
    }

    private static String chain(int length, String last) {
        Desk desk = new Desk();
        for (int page = 0; page < length; page++) {
            desk.put("p" + page, page + 1 < length ? "#to [[p" + (page + 1) + "]]" : last);
        }
        desk.name("p0");
        return "" + desk.web.onward();
    }

    private static void onward() {
        Due.by("ONWARD from a NAME: as long as there is a page of that NAME and it is MOVED, to its NAME; a ring, if one comes again.");
        for (int length = 1; length <= 16; length++) {
            Due.is(length + " pages, the last not MOVED", chain(length, "end"), "" + (length - 1));
            Due.is(length + " pages, the last to no page", chain(length, "#to [[none]]"), "-2");
            Due.is(length + " pages in a ring", chain(length, "#to [[p0]]"), "-3");
            Due.is(length + " pages, the last to itself", chain(length, "#to [[p" + (length - 1) + "]]"), "-3");
        }
    }

    /** What page p shows; m and n are other pages, n without a TEXT of its own if it is null. */
    private static void shown(String p, String m, String n, String want) {
        Desk desk = new Desk();
        desk.put("p", p);
        desk.put("m", m);
        if (n != null) {
            desk.put("n", n);
        }
        Due.is("p \"" + p + "\", m \"" + m + "\", n \"" + n + "\"", desk.show(0), want);
    }

    private static void digits() {
        Due.by("each $ with a digit 1 .. 9 behind it is replaced by that WORD of the page's own, if there are so many (else it stays)");
        for (char c = 32; c < 127; c++) {
            boolean word = c >= '1' && c <= '9';
            boolean mark = "[]{}".indexOf(c) >= 0;
            String nine = "|a|b|c|d|e|f|g|h|i";
            shown("{{m" + nine + "}}", "<$" + c + ">", null, word ? "<" + (char) (c - '1' + 'a') + ">" : "<$" + c + ">");
            if (!mark) {
                shown("{{m" + nine + "}}", "[[x|$" + c + "]]", null, word ? "" + (char) (c - '1' + 'a') : "$" + c);
            }
        }
        for (int n = 0; n <= 9; n++) {
            StringBuilder want = new StringBuilder();
            for (int k = 1; k <= 9; k++) {
                want.append(k <= n ? "w" : "$" + k);
            }
            shown("{{m" + "|w".repeat(n) + "}}", "$1$2$3$4$5$6$7$8$9", null, want.toString());
        }
        shown("$1[[x|$1]]{{m|$1}}", "<$1>", null, "$1$1<$1>");
    }

    private static void besides() {
        Due.by("in plain bytes that stand side by side, in what LINKS show, and in the WORDS of SHOWINGS");
        shown("{{m|w}}", "$", null, "$");
        shown("{{m|w}}", "$$1", null, "$w");
        shown("{{m|w}}", "$11", null, "w1");
        shown("{{m|w}}", "$1$1", null, "ww");
        shown("{{m|w}}", "1$", null, "1$");
        shown("{{m|w}}", "$[[kind:k]]1", null, "$1");
        shown("{{m|w}}", "$[[x|]]1", null, "$1");
        shown("{{m|w}}", "$[[x|1]]", null, "$1");
        shown("{{m|w}}", "[[x|$]]1", null, "$1");
        shown("{{m|w}}", "[[x|a|$1]]", null, "a|w");
        shown("{{m|w}}", "${{n}}1", "", "$1");
        shown("{{m|w}}", "{{n|$}}1", "$1", "$1");
        shown("{{m|w}}", "{{n|$|1}}", "$1$2", "$1");
        shown("{{m|w}}", "{{n|<$1>|$2}}", "$1$2", "<w>$2");
        shown("{{m|w}}", "{{n}}", "$1", "$1");
        shown("{{m|w}}", "[[a $1]]$1\n$1", null, "[[a w]]w\nw");
    }

    private static void notAgain() {
        Due.by("nothing of that is read again");
        shown("{{m|$1}}", "<$1>", null, "<$1>");
        shown("{{m|$2|x}}", "$1", null, "$2");
        shown("{{m|$|1}}", "$1$2", "", "$1");
        shown("{{m|n}}", "{{$1}}[[$1]]", "no", "{{n}}[[n]]");
        shown("{{m|n}}", "[$1]", "no", "[n]");
        shown("{{m|1|w}}", "$$1", "no", "$1");
    }

    private static void noPage() {
        Due.by("? and its NAME (FOLDED) and ? , if no page comes, or a ring");
        shown("{{ None_X |w}}", "", null, "?none x?");
        shown("{{Kind:_X}}", "", null, "?kind:x?");
        shown("{{m}}", "#to [[n]]", null, "?m?");
        shown("{{m}}", "#to [[n]]", "text", "text");
        shown("{{m}}", "#to [[m]]", null, "?m?");
        shown("{{N}}", "#to [[n]]", "#to [[m]]", "?n?");
        shown("{{m}}", "x{{n}}y", "#to [[n]]", "x?n?y");
    }

    private static void madeAlready() {
        Due.by("! and that page's NAME and ! , if the page is being MADE already");
        shown("<{{P|w}}>", "", null, "<!p!>");
        shown("<{{m}}>", "({{p}}{{M}})", null, "<(!p!!m!)>");
        shown("<{{m}}>", "({{n}})", "#to [[p]]", "<(!p!)>");
        shown("{{n}}", "", "#to [[p]]", "!p!");
        shown("{{m}}{{m}}", "x", null, "xx");
        shown("{{m}}{{n}}", "x{{n}}", "y", "xyy");
    }

    private static Desk deep(int pages, String last) {
        Desk desk = new Desk();
        for (int page = 0; page < pages; page++) {
            desk.put("p" + page, page + 1 < pages ? page + "{{p" + (page + 1) + "}}" : last);
        }
        return desk;
    }

    private static void eightPages() {
        Due.by("^ , if 8 pages are being MADE already");
        Due.is("7 pages", deep(7, "e").show(0), "012345e");
        Due.is("8 pages", deep(8, "e").show(0), "0123456e");
        Due.is("9 pages", deep(9, "e").show(0), "01234567^");
        Due.is("10 pages", deep(10, "e").show(0), "01234567^");
        Due.is("9 pages from the second on", deep(9, "e").show(1), "1234567e");
        Due.is("? before ^", deep(8, "{{none}}").show(0), "0123456?none?");
        Due.is("! before ^", deep(8, "{{p0}}{{p7}}").show(0), "0123456!p0!!p7!");
        Desk desk = deep(8, "{{a}}{{b}}{{c}}");
        desk.put("a", "#to [[b]]");
        desk.put("b", "x");
        desk.put("c", "#to [[c]]");
        Due.is("of what comes ONWARD", desk.show(0), "0123456^^?c?");
        Due.is("behind the 8 one may be MADE", desk.show(1), "123456xx?c?");
    }

    private static void bytesMost() {
        Due.by("It is SPENT if there are more than 2000 bytes");
        String eight = "{{m}}".repeat(8);
        String seven = "{{m}}".repeat(7);
        String[] just = {eight, eight + "[[kind:k]]", eight + "[[x|]]", eight + "{{e}}", seven + "y".repeat(250), "{{e}}" + eight,
            seven + "y".repeat(247) + "{{z}}", seven + "y".repeat(249) + "[[x]]", seven + "y".repeat(247) + "{{p}}"};
        String[] more = {eight + "y", "y" + eight, eight + "[[x]]", seven + "y".repeat(251), seven + "y".repeat(248) + "{{z}}",
            seven + "y".repeat(250) + "[[x]]", seven + "y".repeat(248) + "{{p}}", eight + "{{m}}", eight + "{{z}}", eight + "{{p}}"};
        for (String p : just) {
            bytes(p, 2000);
        }
        for (String p : more) {
            bytes(p, -2);
        }
    }

    private static void bytes(String p, int want) {
        Desk desk = new Desk();
        desk.put("p", p);
        desk.put("m", "x".repeat(250));
        desk.put("e", "");
        Due.is("show of \"" + p + "\"", desk.web.show(0), want);
        Due.is("count(3)", desk.web.count(3), Math.max(0, want));
    }

    private static void bytesMostDeep() {
        Due.by("It is SPENT if there are more than 2000 bytes");
        Desk desk = deep(8, "{{m}}".repeat(8));
        desk.put("m", "^".repeat(250));
        Due.is("8 pages of a digit each, and 8 ^", desk.web.show(0), 15);
        Due.is("one page less, 6 digits and 2000", desk.web.show(1), -2);
        desk.put("p7", "{{m}}".repeat(7) + "y".repeat(244));
        Due.is("6 digits and 1994", desk.web.show(1), 2000);
        desk.put("p7", "{{m}}".repeat(7) + "y".repeat(245));
        Due.is("6 digits and 1995", desk.web.show(1), -2);
        Desk caret = deep(8, "{{m}}");
        caret.put("m", "");
        caret.put("q", "{{x}}".repeat(7) + "y".repeat(242) + "{{p0}}");
        caret.put("x", "x".repeat(250));
        Due.is("the last one a ^", caret.web.show(9), 2000);
        caret.put("q", "{{x}}".repeat(7) + "y".repeat(243) + "{{p0}}");
        Due.is("one beyond by a ^", caret.web.show(9), -2);
    }

    /** A page whose WORD of so many bytes is handed to a page that shows none of it. */
    private static Desk word(String handed, String target) {
        Desk desk = new Desk();
        desk.put("p", "{{w|" + "x".repeat(250) + "}}");
        desk.put("w", "{{" + target + "|" + handed + "}}!");
        desk.put("e", "");
        desk.put("r", "#to [[e]]");
        return desk;
    }

    private static void wordBytesMost() {
        Due.by("more than 2000 bytes (in a WORD, too)");
        String eight = "$1".repeat(8);
        for (String target : new String[] {"e", "r"}) {
            Due.is("1999 bytes and one", word("y".repeat(249) + "$1".repeat(7) + "y", target).show(0), "!");
            Due.is("2000 bytes", word(eight, target).show(0), "!");
            Due.is("2001 bytes", word(eight + "y", target).show(0), "answer -2");
            Due.is("2001 bytes", word("y" + eight, target).show(0), "answer -2");
            Due.is("2250 bytes", word(eight + "$1", target).show(0), "answer -2");
            Due.is("2000 bytes in each of nine WORDS", word((eight + "|").repeat(8) + eight, target).show(0), "!");
            Due.is("2001 in the ninth", word((eight + "|").repeat(8) + eight + "y", target).show(0), "answer -2");
            Due.is("2001 in the first", word("y" + (eight + "|").repeat(8) + eight, target).show(0), "answer -2");
        }
        Desk desk = word(eight, "v");
        desk.put("v", "$1");
        desk.put("w", "{{v|" + eight + "}}");
        Due.is("2000 bytes that are shown", desk.web.show(0), 2000);
        desk.put("v", "$1$2");
        Due.is("$2 makes them 2002", desk.web.show(0), -2);
        desk.put("v", "[[kind:k|$1]]{{e|$1}}");
        Due.is("handed on", desk.web.show(0), 0);
        desk.put("v", "{{e|$1y}}");
        Due.is("handed on with one more", desk.web.show(0), -2);
    }

    private static void showingsMost() {
        Due.by("or with the 401st SHOWING that is come to");
        Desk desk = new Desk();
        desk.put("e", "");
        desk.put("t", "{{e}}".repeat(39));
        desk.put("p", "{{t}}".repeat(10));
        Due.is("400", desk.web.show(2), 0);
        desk.put("p", "{{t}}".repeat(10) + "{{e}}");
        Due.is("401", desk.web.show(2), -2);
        desk.put("p", "{{e}}" + "{{t}}".repeat(10));
        Due.is("401, the last one within t", desk.web.show(2), -2);
        desk.put("t", "{{z}}".repeat(39));
        desk.put("p", "{{t}}".repeat(10));
        Due.is("400, most without a page", desk.web.show(2), 1170);
        desk.put("p", "{{t}}".repeat(10) + "{{z}}");
        Due.is("401 with one without a page", desk.web.show(2), -2);
        desk.put("p", "{{t}}".repeat(10) + "{{p}}");
        Due.is("401 with one that is being MADE", desk.web.show(2), -2);
        desk.put("t", "{{p}}".repeat(39));
        desk.put("p", "{{t}}".repeat(10));
        Due.is("400, most being MADE", desk.web.show(2), 1170);
        Due.is("and again, each show() counting from 0", desk.web.show(2), 1170);
    }

    private static void showingsMostDeep() {
        Due.by("or with the 401st SHOWING that is come to");
        Desk desk = deep(8, "{{a}}".repeat(56));
        desk.put("a", "");
        desk.put("p6", "{{p7}}".repeat(6));
        desk.put("p0", "{{p1}}" + "{{a}}".repeat(52));
        Due.is("400, most ^", desk.show(0), "12345" + "^".repeat(336));
        desk.put("p0", "{{p1}}" + "{{a}}".repeat(53));
        Due.is("401, most ^", desk.web.show(0), -2);
    }

    private static void kindsAbove() {
        Due.by("KINDS above a page: those that its LINKS put it into (1 step), and those above a KIND's page of such a NAME, if there is one (1 step more)");
        Desk desk = new Desk();
        desk.put("p", "[[kind:a]]");
        Due.is("no page of that KIND", desk.web.within(0), 1);
        desk.put("kind:a", "{{kind:x}}[[b]]#to [[kind:c]]");
        Due.is("one", desk.web.within(0), 2);
        Due.is("by steps", desk.out(), "kind:a\nkind:c\n");
        desk.put("kind:c", "[[kind:c]][[kind:b]]");
        Due.is("a KIND in itself", desk.web.within(2), 2);
        Due.is("itself too", desk.out(), "kind:b\nkind:c\n");
        Due.is("none twice", desk.web.within(0), 3);
        Due.is("by steps", desk.out(), "kind:a\nkind:c\nkind:b\n");
        desk.put("a", "[[kind:z]]");
        Due.is("another page of the same bytes is none", desk.web.within(0), 3);
        desk.put("kind:b", "#to [[a]]");
        Due.is("nor is it gone ONWARD", desk.web.within(0), 3);
        desk.gone("kind:a");
        Due.is("no page more", desk.web.within(0), 1);
    }

    public static void main(String[] args) {
        changesMost();
        lastChange();
        pagesMost();
        pagesByMove();
        numbersKept();
        asNeverBeen();
        neverBeenBefore();
        timeZero();
        everyTime();
        latestAtFirst();
        onward();
        digits();
        besides();
        notAgain();
        noPage();
        madeAlready();
        eightPages();
        bytesMost();
        bytesMostDeep();
        wordBytesMost();
        showingsMost();
        showingsMostDeep();
        kindsAbove();
        Due.exit();
    }
}
