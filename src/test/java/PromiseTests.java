import java.util.List;

/** For each promise of the document what it asks for: ordinary calls, its edges, and wrong ones. */
public final class PromiseTests {
    private static int promise = 0;

    private static void due(String what, Object got, Object want) {
        Due.is(what, got, want);
    }

    private static void next() {
        promise++;
        Due.by("promise " + promise);
    }

    private static String times(String s, int n) {
        return s.repeat(n);
    }

    private static void newObject() {
        PageWeb web = new PageWeb();
        for (int what = 0; what < 5; what++) {
            due("count(" + what + ")", web.count(what), 0);
        }
        due("write", web.write(0), -1);
        due("gone", web.gone(0), -1);
        due("move", web.move(0), -1);
        due("rename", web.rename(0), -1);
        due("onward", web.onward(), -1);
        due("from", web.from(true), -1);
        due("touch", web.touch(), -1);
        due("members", web.members(0), -1);
        due("out", web.out(0), -1);
        due("found", web.found(0), -1);
        due("show", web.show(0), -1);
        due("wanted", web.wanted(), 0);
        due("NONE", PageWeb.NONE, -1);
    }

    private static void feed() {
        PageWeb web = new PageWeb();
        for (int i = 1; i <= 20; i++) {
            due("feed " + i, web.feed(0, 0, 0, 0, 0), 20 * i);
        }
        due("feed beyond 400", web.feed(0, 0, 0, 0, 0), -1);
        due("count(4)", web.count(4), 400);
        web.end(381);
        due("feed at 381", web.feed(0, 0, 0, 0, 0), -1);
        web.end(380);
        due("feed at 380", web.feed(0, 0, 0, 0, 0), 400);
        web.end(0);
        web.feed(0x61626364, 0x65666768, 0x696a6b6c, 0x6d6e6f70, 0x20202020);
        due("name", web.name(), -2);
        web.write(0);
        web.named(0);
        due("first byte", web.out(0), (int) 'a');
        due("last byte", web.out(15), (int) 'p');
        web.feed(-1, -1, -1, -1, -1);
        due("bytes above 126 are no TEXT", web.write(0), -2);
    }

    private static void end() {
        Desk desk = new Desk();
        desk.web.feed(0x61626364, 0, 0, 0, 0);
        due("end(21)", desk.web.end(21), false);
        due("end(-1)", desk.web.end(-1), false);
        due("end(max)", desk.web.end(Integer.MAX_VALUE), false);
        due("end(min)", desk.web.end(Integer.MIN_VALUE), false);
        due("count(4)", desk.web.count(4), 20);
        due("end(20)", desk.web.end(20), true);
        due("end(2)", desk.web.end(2), true);
        due("count(4)", desk.web.count(4), 2);
        desk.web.name();
        desk.write("");
        desk.web.named(0);
        due("the first bytes stay", desk.out(), "ab");
    }

    private static void take() {
        Desk desk = new Desk();
        due("take of nothing", desk.web.take(), 0);
        desk.put("m", times("x", 210));
        desk.put("p", "{{m}}{{m}}y");
        desk.tape("old");
        due("show", desk.web.show(1), 421);
        due("take", desk.web.take(), 400);
        due("count(4)", desk.web.count(4), 400);
        desk.web.text(0);
        due("take", desk.web.take(), 210);
        due("OUT stays", desk.web.count(3), 210);
        desk.web.end(3);
        due("write", desk.web.write(0), 3);
        due("text", desk.text(1), "xxx");
    }

    private static void name() {
        String[] none = {"", " ", "___", "kind:", "kind: _", "kind :a", "a!b", "a:b", "a-b", "abcdefghijklmnopq",
            "kind:abcdefghijklmnopq", "kind:kind:a", "a\nb", "\ta", "kinds:a", "mind:a", ":a", "\u00e9", "kind:a:"};
        for (String s : none) {
            Desk desk = new Desk();
            due("name \"" + s + "\"", desk.name(s), -1);
            due("tape behind it", desk.web.count(4), 0);
            due("onward", desk.web.onward(), -1);
        }
        String[][] good = {{"a", "a"}, {" A_b  C ", "a b c"}, {"__x__", "x"}, {"abcdefghijklmnop", "abcdefghijklmnop"},
            {"KIND:  k", "kind:k"}, {" Kind:_a_ _b ", "kind:a b"}, {"kind", "kind"}, {"0 9", "0 9"},
            {"kind: ABCDEFGHIJKLMNOP", "kind:abcdefghijklmnop"}, {times(" ", 200) + "z" + times("_", 190), "z"}};
        for (String[] pair : good) {
            Desk desk = new Desk();
            due("name \"" + pair[0] + "\"", desk.name(pair[0]), -2);
            due("write", desk.write(""), 1);
            desk.web.named(0);
            due("named", desk.out(), pair[1]);
            due("name again", desk.name(pair[1]), 0);
        }
        Desk desk = new Desk();
        desk.put("a", "1");
        desk.put("b", "2");
        desk.web.as(1);
        due("name at TIME 1", desk.name("b"), -2);
        desk.web.as(2);
        due("name at TIME 2", desk.name("b"), 1);
        due("no NAME", desk.name("!"), -1);
        due("the NAME at hand stays", desk.web.onward(), 1);
    }

    private static void write() {
        Desk desk = new Desk();
        desk.tape("x");
        due("without a NAME", desk.web.write(0), -1);
        due("tape behind it", desk.web.count(4), 0);
        desk.name("a");
        for (int hand : new int[] {-1, 10, Integer.MIN_VALUE, Integer.MAX_VALUE}) {
            desk.tape("x");
            due("hand " + hand, desk.web.write(hand), -1);
            due("tape behind it", desk.web.count(4), 0);
        }
        for (String s : new String[] {"\t", "\r", "\u007f", "\u0080", "\u00ff", "\u0000", times("x", 301)}) {
            due("no TEXT", desk.write(s), -2);
            due("tape behind it", desk.web.count(4), 0);
        }
        desk.tape("\t");
        due("hand before TEXT", desk.web.write(10), -1);
        due("count(0)", desk.web.count(0), 0);
        due("write", desk.write("\n ~"), 1);
        due("write", desk.write(times("x", 300)), 2);
        due("write", desk.write(""), 3);
        due("empty", desk.text(0), "");
        desk.web.as(1);
        due("write at an old TIME", desk.write("new"), 4);
        due("which is asked of further", desk.text(0), "\n ~");
        desk.web.as(-1);
        due("the latest", desk.text(0), "new");
        for (int page = 1; page < 16; page++) {
            due("page " + page, desk.put("p" + page, "x"), 4 + page);
        }
        due("a 17th page", desk.put("q", "x"), -3);
        due("no TEXT for a 17th page", desk.write("\t"), -2);
        desk.name("p3");
        due("gone", desk.web.gone(0), 20);
        due("a 17th page still", desk.put("q", "x"), -3);
        due("its number is its own", desk.put("p3", "y"), 21);
        due("page", desk.web.change(21, 0), 3);
        desk.fillTo(119);
        due("write", desk.write("x"), 120);
        due("a 121st CHANGE", desk.write("x"), -3);
        due("gone", desk.web.gone(0), -3);
        due("back", desk.web.back(120, 0), -3);
        due("back that can't be", desk.web.back(119, 0), -2);
        due("move", desk.move("p2"), -2);
        due("count(0)", desk.web.count(0), 120);
    }

    private static void gone() {
        Desk desk = new Desk();
        desk.name("a");
        due("no page", desk.web.gone(0), -1);
        desk.write("abc");
        due("hand", desk.web.gone(10), -1);
        due("hand", desk.web.gone(-1), -1);
        desk.tape("left");
        due("gone", desk.web.gone(4), 2);
        due("the tape stays", desk.web.count(4), 4);
        due("change", desk.change(2), "0 4 0 3 0");
        due("twice", desk.web.gone(0), -1);
        due("count(1)", desk.web.count(1), 0);
        due("named", desk.web.named(0), -1);
        due("text", desk.web.text(0), -1);
        due("read", desk.web.read(0, 0), -1);
        due("show", desk.web.show(0), -1);
        due("within", desk.web.within(0), -1);
        due("blame", desk.web.blame(0, 0), -1);
        due("name", desk.name("a"), -2);
        desk.web.as(1);
        due("name before", desk.name("a"), 0);
        due("gone at the latest TIME", desk.web.gone(0), -1);
        desk.web.as(-1);
        due("write", desk.write("abd"), 3);
        due("as if it had never been", desk.change(3), "0 0 0 0 3");
        due("blame", desk.blame(0), "3 3 3");
    }

    private static void move() {
        Desk desk = new Desk();
        desk.put("a", "text [[a]]");
        desk.put("r1", "#to [[A|label]]");
        desk.put("r2", "#to [[a]]x");
        desk.put("r3", "#to [[ a ]]");
        desk.put("kind:k", "#to [[a]]");
        desk.name("a");
        for (String s : new String[] {"", "!", "A", "r1", "kind:z"}) {
            due("move to " + s, desk.move(s), -2);
            due("tape behind it", desk.web.count(4), 0);
        }
        desk.tape("!");
        due("hand first", desk.web.move(10), -1);
        desk.tape("New_B");
        due("move", desk.web.move(7), 5);
        due("count(0)", desk.web.count(0), 10);
        due("page 0", desk.text(0), "#to [[new b]]");
        due("page 1", desk.text(1), "#to [[new b]]");
        due("page 2", desk.text(2), "#to [[a]]x");
        due("page 3", desk.text(3), "#to [[new b]]");
        due("page 4", desk.text(4), "#to [[new b]]");
        due("page 5", desk.text(5), "text [[a]]");
        due("order", desk.web.change(6, 0) + " " + desk.web.change(7, 0) + " " + desk.web.change(8, 0) + " "
            + desk.web.change(9, 0) + " " + desk.web.change(10, 0), "5 0 1 3 4");
        due("hand", desk.web.change(10, 1), 7);
        due("blame of the new page", desk.web.blame(5, 3), 6);
        due("NAME at hand", desk.web.onward(), 5);
        desk.name("kind:k");
        due("of a KIND", desk.move("y"), -2);
        desk.name("nobody");
        due("of no page", desk.move("y"), -1);
        desk.name("new b");
        desk.web.gone(0);
        desk.name("r2");
        due("to one that was GONE", desk.move("new b"), 2);
        due("has its number", desk.text(5), "#to [[a]]x");
        moveSelf();
        moveFull();
    }

    private static void moveSelf() {
        Desk desk = new Desk();
        desk.put("w", "#to [[w]]");
        due("move of a ring", desk.move("v"), 3);
        due("old", desk.text(0), "#to [[v]]");
        due("new, as it is then", desk.text(1), "#to [[v]]");
        desk.web.as(2);
        due("new at first", desk.text(1), "#to [[w]]");
    }

    private static void moveFull() {
        Desk desk = new Desk();
        for (int page = 0; page < 16; page++) {
            desk.put("p" + page, page == 0 ? "x" : "#to [[p0]]");
        }
        desk.name("p0");
        due("move with 16 pages", desk.move("q"), -3);
        due("text", desk.text(0), "x");
        desk.name("p1");
        desk.web.gone(0);
        desk.name("p0");
        for (int c = 18; c <= 105; c++) {
            desk.write("" + c);
        }
        due("move with too many CHANGES", desk.move("p1"), -3);
        due("count(0)", desk.web.count(0), 105);
        desk.web.back(1, 0);
        desk.name("p2");
        desk.web.gone(0);
        desk.name("p0");
        due("still too many", desk.move("p1"), -3);
        due("count(0)", desk.web.count(0), 106);
        desk.name("p3");
        desk.web.gone(0);
        desk.name("p0");
        due("still too many", desk.move("p1"), -3);
        desk = new Desk();
        desk.put("a", "x");
        for (int c = 2; c <= 118; c++) {
            desk.write("" + c);
        }
        due("just enough CHANGES", desk.move("b"), 2);
        due("count(0)", desk.web.count(0), 120);
        desk = new Desk();
        desk.put("m", "#to [[a]]");
        desk.put("a", "x");
        for (int c = 3; c <= 118; c++) {
            desk.write("" + c);
        }
        due("too many by one that is MOVED", desk.move("b"), -3);
        due("count(0)", desk.web.count(0), 118);
    }

    private static void rename() {
        Desk desk = new Desk();
        desk.put("a", "I [[a]] [[A|me]] {{a}} [[_a_|x|y]]");
        desk.put("b", "[[b]] [[a b]] {{a|[[a]]}}");
        desk.put("c", "no [[b]]");
        desk.put("d", "#to [[a|d]]");
        desk.put("e", "#to [[a|d]] ");
        desk.name("a");
        desk.tape("kind:x");
        due("to a KIND", desk.web.rename(0), -2);
        desk.tape("B");
        due("to a page that is there", desk.web.rename(0), -2);
        desk.tape("z");
        due("hand", desk.web.rename(-1), -1);
        desk.tape("New__One");
        due("rename", desk.web.rename(5), 6);
        due("page 0", desk.text(0), "#to [[new one]]");
        due("page 1", desk.text(1), "[[b]] [[a b]] {{a|[[new one]]}}");
        due("page 2", desk.text(2), "no [[b]]");
        due("page 3", desk.text(3), "#to [[new one]]");
        due("page 4", desk.text(4), "#to [[new one|d]] ");
        due("page 5", desk.text(5), "I [[new one]] [[new one|me]] {{a}} [[new one|x|y]]");
        due("order", desk.web.change(6, 0) + " " + desk.web.change(7, 0) + " " + desk.web.change(8, 0) + " "
            + desk.web.change(9, 0) + " " + desk.web.change(10, 0) + " " + desk.web.change(11, 0), "5 0 3 1 4 5");
        due("hand", desk.web.change(11, 1), 5);
        renameLong();
        renameFull();
    }

    private static void renameLong() {
        Desk desk = new Desk();
        desk.put("a", "x");
        desk.put("b", "[[a]]" + times("y", 293));
        desk.name("a");
        due("just fitting", desk.rename("abc"), 3);
        due("text", desk.web.text(1), 300);
        desk.name("abc");
        due("too long", desk.rename("abcd"), -2);
        due("nothing done", desk.web.count(0), 5);
        due("nothing done", desk.name("abcd"), -2);
        desk.name("abc");
        due("move all the same", desk.move("abcd"), 3);
    }

    private static void renameFull() {
        Desk desk = new Desk();
        desk.put("a", "[[a]]");
        for (int c = 2; c <= 117; c++) {
            desk.write("[[a]]" + c);
        }
        desk.put("b", "[[a]]");
        desk.name("a");
        due("too many CHANGES by one", desk.rename("c"), -3);
        due("move has room", desk.web.count(0), 118);
        due("move", desk.move("c"), 2);
        due("page 2", desk.text(2), "[[a]]117");
    }

    private static void as() {
        Desk desk = new Desk();
        due("as(1) of none", desk.web.as(1), false);
        due("as(0)", desk.web.as(0), true);
        desk.put("a", "1");
        due("at TIME 0", desk.web.count(1), 0);
        due("as(-1)", desk.web.as(-1), true);
        due("latest", desk.web.count(1), 1);
        desk.put("b", "{{a}}");
        desk.put("a", "2");
        due("latest goes on", desk.show(1), "2");
        due("as(2)", desk.web.as(2), true);
        due("show", desk.show(1), "1");
        due("as(4)", desk.web.as(4), false);
        due("as(-2)", desk.web.as(-2), false);
        due("as(max)", desk.web.as(Integer.MAX_VALUE), false);
        due("as(min)", desk.web.as(Integer.MIN_VALUE), false);
        due("TIME stays", desk.show(1), "1");
        due("as(3)", desk.web.as(3), true);
        due("show", desk.show(1), "2");
    }

    private static void count() {
        Desk desk = new Desk();
        desk.put("a", "[[b]]");
        desk.put("c", "[[b]]");
        desk.put("a", "[[b]]x");
        desk.name("b");
        desk.web.from(false);
        desk.web.text(0);
        desk.tape("abc");
        int[] want = {3, 2, 2, 6, 3};
        for (int what = 0; what < 5; what++) {
            due("count(" + what + ")", desk.web.count(what), want[what]);
        }
        for (int what : new int[] {-1, 5, Integer.MIN_VALUE, Integer.MAX_VALUE}) {
            due("count(" + what + ")", desk.web.count(what), -1);
        }
        desk.web.as(1);
        due("CHANGES at an old TIME", desk.web.count(0), 3);
        due("pages at an old TIME", desk.web.count(1), 1);
    }

    private static void found() {
        Desk desk = new Desk();
        desk.put("a", "[[x]]");
        desk.put("b", "");
        desk.put("c", "[[x]]");
        desk.name("x");
        desk.web.from(false);
        due("found", desk.found(), List.of(0, 2));
        for (int k : new int[] {-1, 2, 16, Integer.MIN_VALUE, Integer.MAX_VALUE}) {
            due("found(" + k + ")", desk.web.found(k), -1);
        }
        desk.web.members(0);
        desk.web.as(0);
        due("stays", desk.found(), List.of(0, 2));
    }

    private static void out() {
        Desk desk = new Desk();
        desk.put("a", "x\n~");
        desk.web.text(0);
        due("out", desk.out(), "x\n~");
        for (int i : new int[] {-1, 3, 2000, Integer.MIN_VALUE, Integer.MAX_VALUE}) {
            due("out(" + i + ")", desk.web.out(i), -1);
        }
        desk.web.text(1);
        desk.web.named(1);
        desk.web.show(1);
        desk.web.within(1);
        due("stays", desk.out(), "x\n~");
    }

    private static void named() {
        Desk desk = new Desk();
        desk.put("KIND: A_b", "");
        desk.put("C", "");
        due("named(0)", desk.web.named(0), 8);
        due("out", desk.out(), "kind:a b");
        due("named(1)", desk.web.named(1), 1);
        due("out", desk.out(), "c");
        for (int page : new int[] {-1, 2, 16, Integer.MIN_VALUE, Integer.MAX_VALUE}) {
            due("named(" + page + ")", desk.web.named(page), -1);
        }
        desk.web.as(1);
        due("not yet there", desk.web.named(1), -1);
        due("OUT stays", desk.out(), "c");
    }

    private static void text() {
        Desk desk = new Desk();
        desk.put("a", "[[A]] $1");
        desk.put("a", "");
        due("text(0)", desk.web.text(0), 0);
        desk.web.as(1);
        due("text(0)", desk.web.text(0), 8);
        due("out", desk.out(), "[[A]] $1");
        for (int page : new int[] {-1, 1, 16, Integer.MIN_VALUE, Integer.MAX_VALUE}) {
            due("text(" + page + ")", desk.web.text(page), -1);
        }
    }

    private static void read() {
        Object[][] all = {
            {"", 0, 0, 0}, {"abc", 0, 0, 3}, {"[[x]]", 1, 0, 0}, {"{{x}}", 0, 1, 0}, {"[[[x]]]", 1, 0, 2},
            {"{{{x}}}", 0, 1, 2}, {"[[x]", 0, 0, 4}, {"[[x}}", 0, 0, 5}, {"[[x\n]]", 0, 0, 6}, {"[[]]", 0, 0, 4},
            {"[[|x]]", 0, 0, 6}, {"[[x|]]", 1, 0, 0}, {"[[x|!$%]]", 1, 0, 0}, {"[[x!]]", 0, 0, 6},
            {"{{x|{{y}}}}", 0, 1, 6}, {"[[x|[[y]]]]", 1, 0, 6}, {"[[kind:x]]", 1, 0, 0}, {"{{ kind:_x }}", 0, 1, 0},
            {"{{x|1|2|3|4|5|6|7|8|9}}", 0, 1, 0}, {"{{x|1|2|3|4|5|6|7|8|9|}}", 0, 0, 24},
            {"[[x|1|2|3|4|5|6|7|8|9|10]]", 1, 0, 0}, {"[[abcdefghijklmnopq]]", 0, 0, 21}, {"[[x]]{{y}}", 1, 1, 0},
            {"[[x{y]]", 0, 0, 7}, {"[[x]][[y]]z", 2, 0, 1}, {"[", 0, 0, 1}, {"[[", 0, 0, 2}, {"[[a]", 0, 0, 4}};
        for (Object[] row : all) {
            Desk desk = new Desk();
            desk.put("p", (String) row[0]);
            for (int what = 0; what < 3; what++) {
                due("read of " + row[0] + ", " + what, desk.web.read(0, what), row[what + 1]);
            }
        }
        Desk desk = new Desk();
        String[] texts = {"#to [[b]]", "#to [[P]]", "#to [[p|x]]", "#to  [[p]]", "#to [[p]]x", "#to [[kind:k]]", "#To [[p]]",
            "#to {{p}}", " #to [[p]]", "#to [[p]][[p]]", "#to ", "#to [[!]]", "#to[[p]]", "#to_[[p]]", "xto [[p]]"};
        int[] moved = {-2, 0, 0, -1, -1, -1, -1, -1, -1, -1, -1, -1, -1, -1, -1};
        for (int k = 0; k < texts.length; k++) {
            desk.put("p", texts[k]);
            due("MOVED by " + texts[k], desk.web.read(0, 3), moved[k]);
        }
        due("read(0, 4)", desk.web.read(0, 4), -1);
        due("read(0, -1)", desk.web.read(0, -1), -1);
        due("read(0, max)", desk.web.read(0, Integer.MAX_VALUE), -1);
        for (int page : new int[] {-1, 1, 16, Integer.MIN_VALUE, Integer.MAX_VALUE}) {
            due("read(" + page + ", 0)", desk.web.read(page, 0), -1);
        }
    }

    private static void show() {
        Desk desk = new Desk();
        desk.put("m", "<$1,$2,$3$>[[x|l$1$2]]$0$1$[[kind:k]]1");
        desk.put("p", "{{m|a|b c}}");
        due("WORDS", desk.show(1), "<a,b c,$3$>lab c$0a$1");
        desk.put("p", "{{m|$1|[}}{{M||}}");
        due("WORDS that stay", desk.show(1), "{{m|$1|[}}<,,$3$>l$0$1");
        desk.put("p", "{{m|$1$2}}");
        desk.put("q", "{{p|$1|w}}{{nobody|x}}{{Kind:_No}}");
        due("handed on", desk.show(2), "<$1w,$2,$3$>l$1w$2$0$1w$1?nobody??kind:no?");
        desk.put("l", "[[ X_y ]] [[x|]] [[x|a|b]] [[kind:k|z]][[!]]$");
        due("LINKS", desk.show(3), " X_y   a|b [[!]]$");
        desk.put("r", "[[$1]]");
        desk.put("q", "{{r|l}}");
        due("nothing is read again", desk.show(2), "[[l]]");
        desk.put("q", "{{t}}{{u}}");
        desk.put("t", "#to [[l2]]");
        desk.put("l2", "<{{t}}{{q}}>");
        due("ONWARD", desk.show(2), "<!l2!!q!>?u?");
        due("a MOVED page itself", desk.show(5), "#to l2");
        desk.put("u", "#to [[U]]");
        due("a ring", desk.show(2), "<!l2!!q!>?u?");
        for (int page : new int[] {-1, 8, 16, Integer.MIN_VALUE, Integer.MAX_VALUE}) {
            due("show(" + page + ")", desk.web.show(page), -1);
        }
        showDeep();
        showSpent();
        showCounted();
    }

    private static void showDeep() {
        Desk desk = new Desk();
        for (int k = 0; k < 8; k++) {
            desk.put("c" + k, k + "{{c" + (k + 1) + "|$1" + k + "}}");
        }
        desk.put("c8", "end$1");
        due("9 deep", desk.show(0), "01234567^");
        due("8 deep", desk.show(1), "1234567end$11234567");
        desk.put("c7", "{{nobody}}{{c3}}{{c7}}{{c8}}");
        due("at 8 deep", desk.show(0), "0123456?nobody?!c3!!c7!^");
    }

    private static void showSpent() {
        Desk desk = new Desk();
        desk.put("m", times("x", 250));
        desk.put("p", times("{{m}}", 8));
        due("2000 bytes", desk.web.show(1), 2000);
        desk.put("p", times("{{m}}", 8) + "[[kind:k]]");
        due("2000 bytes", desk.web.show(1), 2000);
        desk.put("p", times("{{m}}", 8) + "y");
        due("2001 bytes", desk.web.show(1), -2);
        due("OUT stays", desk.web.count(3), 2000);
        desk.put("p", times("{{m}}", 7) + times("y", 248) + "{{z}}");
        due("2001 bytes by a mark", desk.web.show(1), -2);
        desk.put("w", "{{v|$1$1$1$1$1$1$1$1}}!");
        desk.put("v", "{{e|$1}}");
        desk.put("e", "");
        desk.put("p", "{{w|" + times("x", 250) + "}}");
        due("a WORD of 2000", desk.show(1), "!");
        desk.put("v", "{{e|$1x}}");
        due("a WORD of 2001", desk.web.show(1), -2);
        desk.put("v", "{{e|$1|$1|$1|$1|$1|$1|$1|$1|$1}}");
        due("nine WORDS of 2000", desk.show(1), "!");
        desk.put("e", "$9");
        due("2001 with one", desk.web.show(1), -2);
    }

    private static void showCounted() {
        Desk desk = new Desk();
        desk.put("e", "");
        desk.put("t", times("{{e}}", 19));
        desk.put("p", times("{{t}}", 20));
        due("400 SHOWINGS", desk.web.show(2), 0);
        desk.put("p", times("{{t}}", 20) + "{{e}}");
        due("401 SHOWINGS", desk.web.show(2), -2);
        desk.put("p", times("{{t}}", 20) + "{{z}}");
        due("401 with one of no page", desk.web.show(2), -2);
        desk.put("p", times("{{t}}", 19) + times("{{z}}", 20));
        due("400 with some of no page", desk.web.show(2), 60);
    }

    private static void onward() {
        Desk desk = new Desk();
        desk.put("a", "#to [[b]]");
        due("none in the end", desk.web.onward(), -2);
        desk.put("b", "#to [[ C ]]");
        desk.put("c", "end");
        due("itself", desk.web.onward(), 2);
        desk.name("a");
        due("two moves", desk.web.onward(), 2);
        desk.put("c", "#to [[b]]");
        desk.name("a");
        due("a ring", desk.web.onward(), -3);
        desk.name("nobody");
        due("no page", desk.web.onward(), -2);
        desk.name("a");
        desk.web.as(3);
        due("as it was", desk.web.onward(), 2);
        Desk chain = new Desk();
        for (int page = 0; page < 16; page++) {
            chain.put("p" + page, "#to [[p" + (page + 1) + "]]");
        }
        chain.name("p0");
        due("16 moves to none", chain.web.onward(), -2);
        chain.put("p15", "end");
        chain.name("p0");
        due("15 moves", chain.web.onward(), 15);
        chain.put("p15", "#to [[p0]]");
        due("16 in a ring", chain.web.onward(), -3);
    }

    private static void from() {
        Desk desk = new Desk();
        desk.put("a", "[[x]] {{y}}");
        desk.put("y", "#to [[X]]");
        desk.put("b", "[[Y|w]]");
        desk.put("c", "{{x}}");
        desk.put("x", "#to [[z]]");
        desk.name("z");
        due("from(false)", desk.web.from(false), 1);
        due("found", desk.found(), List.of(4));
        due("from(true)", desk.web.from(true), 4);
        due("found", desk.found(), List.of(0, 1, 2, 4));
        desk.name("x");
        due("from(false)", desk.web.from(false), 2);
        due("found", desk.found(), List.of(0, 1));
        due("from(true)", desk.web.from(true), 3);
        due("found", desk.found(), List.of(0, 1, 2));
        desk.put("z", "#to [[y]]");
        due("in a ring", desk.web.from(true), 5);
        due("found", desk.found(), List.of(0, 1, 2, 4, 5));
        desk.web.as(1);
        desk.name("x");
        due("as it was", desk.web.from(true), 1);
        desk.web.as(-1);
        desk.put("k", "[[kind:k]]");
        desk.name("kind:k");
        due("to a KIND", desk.web.from(false), 1);
        desk.name("nobody");
        due("none", desk.web.from(true), 0);
    }

    private static void wanted() {
        Desk desk = new Desk();
        desk.put("a", "[[b]] [[Bc]] [[a]] [[kind:k]] {{q}} [[b 1]] [[b0]] [[B]]");
        desk.put("c", "#to [[0]]");
        due("wanted", desk.web.wanted(), 5);
        due("out", desk.out(), "0\nb\nb 1\nb0\nbc\n");
        desk.web.as(1);
        due("wanted", desk.web.wanted(), 4);
        desk.web.as(-1);
        desk.put("b", "");
        due("wanted", desk.web.wanted(), 4);
        due("out", desk.out(), "0\nb 1\nb0\nbc\n");
        desk.web.gone(0);
        due("one that is GONE", desk.web.wanted(), 5);
        Desk full = new Desk();
        int n = 0;
        for (int page = 0; page < 8; page++) {
            StringBuilder text = new StringBuilder();
            for (int k = 0; k < 15 && n < 117; k++) {
                text.append("[[abcdefghijklm").append(100 + n++).append("]]");
            }
            full.put("p" + page, text + (page == 7 ? "[[abcdefghij]]" : ""));
        }
        due("2000 bytes", full.web.wanted(), 118);
        due("count(3)", full.web.count(3), 2000);
        full.put("p8", "[[p9]]");
        due("more than 2000", full.web.wanted(), -2);
        due("OUT stays", full.web.count(3), 2000);
    }

    private static void touch() {
        Desk desk = new Desk();
        desk.put("a", "{{b}}");
        desk.put("b", "{{c}}");
        desk.put("c", "x");
        desk.put("d", "[[c]]");
        desk.put("e", "{{f}}");
        desk.put("f", "#to [[g]]");
        desk.put("g", "#to [[c]]");
        desk.put("h", "{{e}}{{h}}");
        desk.name("c");
        due("touch", desk.web.touch(), 5);
        due("found", desk.found(), List.of(0, 1, 2, 4, 7));
        desk.name("g");
        due("on the way", desk.web.touch(), 3);
        due("found", desk.found(), List.of(4, 6, 7));
        desk.name("z");
        due("of no page", desk.web.touch(), 0);
        desk.put("i", "{{Z}}");
        desk.name("z");
        due("not there", desk.web.touch(), 1);
        due("found", desk.found(), List.of(8));
        desk.put("g", "#to [[f]]");
        desk.name("f");
        due("in a ring", desk.web.touch(), 3);
        due("found", desk.found(), List.of(4, 5, 7));
        desk.name("c");
        desk.web.as(2);
        due("as it was", desk.web.touch(), 2);
    }

    private static void within() {
        Desk desk = new Desk();
        desk.put("p", "[[kind:b]][[Kind:A|x]][[kind:b]]{{kind:z}}[[q]]");
        desk.put("kind:b", "[[kind:a1]][[kind:a]]");
        desk.put("kind:a", "[[kind:d]][[kind:b]]");
        desk.put("kind:d", "#to [[p]]");
        due("within", desk.web.within(0), 4);
        due("out", desk.out(), "kind:a\nkind:b\nkind:a1\nkind:d\n");
        due("of a KIND", desk.web.within(1), 4);
        due("out", desk.out(), "kind:a\nkind:a1\nkind:b\nkind:d\n");
        due("of none", desk.web.within(3), 0);
        due("out", desk.out(), "");
        desk.web.as(1);
        due("as it was", desk.web.within(0), 2);
        due("not there", desk.web.within(1), -1);
        for (int page : new int[] {-1, 16, Integer.MIN_VALUE, Integer.MAX_VALUE}) {
            due("within(" + page + ")", desk.web.within(page), -1);
        }
        withinDeep();
        withinFull();
    }

    private static void withinDeep() {
        Desk desk = new Desk();
        StringBuilder want = new StringBuilder();
        for (int page = 0; page < 16; page++) {
            desk.put("kind:" + (char) ('q' - page), "[[kind:" + (char) ('p' - page) + "]]");
            want.append("kind:").append((char) ('p' - page)).append('\n');
        }
        due("16 steps", desk.web.within(0), 16);
        due("out", desk.out(), want.toString());
        desk.put("kind:b", "[[kind:q]]");
        due("a ring of 16", desk.web.within(0), 16);
    }

    private static void withinFull() {
        Desk desk = new Desk();
        int n = 0;
        for (int page = 0; page < 9; page++) {
            StringBuilder text = new StringBuilder(page < 8 ? "[[kind:" + page + "]]" : "");
            for (int k = 0; k < 11 && n < 84; k++) {
                text.append("[[kind:abcdefghijklm").append(100 + n++).append("]]");
            }
            desk.put(page == 0 ? "p" : "kind:" + (page - 1), text.toString());
        }
        // 84 of 22 bytes and 8 of 7: 1904 in all.
        due("within", desk.web.within(0), 92);
        due("count(3)", desk.web.count(3), 1904);
        desk.put("kind:7", "[[kind:abcdefghijklmnop]][[kind:abcdefghijklmno1]][[kind:abcdefghijklmno2]][[kind:abcdefghijklmno3]][[kind:ab]]");
        due("2000 bytes", desk.web.within(0), 97);
        due("count(3)", desk.web.count(3), 2000);
        desk.put("kind:ab", "[[kind:c]]");
        due("more than 2000", desk.web.within(0), -2);
        due("OUT stays", desk.web.count(3), 2000);
    }

    private static void members() {
        Desk desk = new Desk();
        desk.put("a", "[[kind:k]]");
        desk.put("kind:k", "[[kind:m]]");
        desk.put("b", "[[kind:m]]");
        desk.put("c", "[[k]]{{kind:m}}");
        desk.put("kind:m", "");
        desk.name("Kind:_M");
        due("one step", desk.web.members(0), 2);
        due("found", desk.found(), List.of(1, 2));
        due("all steps", desk.web.members(1), 3);
        due("found", desk.found(), List.of(0, 1, 2));
        desk.put("kind:m", "[[kind:k]]");
        due("in a ring", desk.web.members(1), 4);
        due("found", desk.found(), List.of(0, 1, 2, 4));
        for (int what : new int[] {-1, 2, Integer.MIN_VALUE, Integer.MAX_VALUE}) {
            due("members(" + what + ")", desk.web.members(what), -1);
        }
        due("FOUND stays", desk.found(), List.of(0, 1, 2, 4));
        desk.web.as(1);
        desk.name("kind:k");
        due("as it was", desk.web.members(1), 1);
        desk.name("k");
        due("no KIND", desk.web.members(1), -1);
        desk.name("kind:none");
        due("none", desk.web.members(0), 0);
    }

    private static void blame() {
        Desk desk = new Desk();
        desk.put("p", "abcdef");
        desk.write("abXdef");
        desk.write("abXdefgh");
        desk.write("Xdefgh");
        due("blame", desk.blame(0), "2 1 1 1 3 3");
        desk.write("XdeXdefgh");
        due("the beginning first", desk.blame(0), "2 1 1 5 5 5 1 3 3");
        due("blame(0, -1)", desk.web.blame(0, -1), -1);
        due("blame(0, 9)", desk.web.blame(0, 9), -1);
        due("blame(0, max)", desk.web.blame(0, Integer.MAX_VALUE), -1);
        due("blame(0, min)", desk.web.blame(0, Integer.MIN_VALUE), -1);
        for (int page : new int[] {-1, 1, 16, Integer.MIN_VALUE, Integer.MAX_VALUE}) {
            due("blame(" + page + ", 0)", desk.web.blame(page, 0), -1);
        }
        desk.web.as(2);
        due("as it was", desk.blame(0), "1 1 2 1 1 1");
    }

    private static void change() {
        Desk desk = new Desk();
        desk.name("p");
        desk.tape("aab");
        desk.web.write(9);
        due("the first", desk.change(1), "0 9 0 0 3");
        desk.write("aaab");
        due("beginning first", desk.change(2), "0 0 2 0 1");
        desk.write("aab");
        due("taken out", desk.change(3), "0 0 2 1 0");
        desk.write("aab");
        due("nothing", desk.change(4), "0 0 3 0 0");
        desk.write("xyz");
        due("all", desk.change(5), "0 0 0 3 3");
        desk.put("q", "");
        due("empty", desk.change(6), "1 0 0 0 0");
        desk.web.as(1);
        due("at any TIME", desk.change(5), "0 0 0 3 3");
        for (int c : new int[] {0, -1, 7, 121, Integer.MIN_VALUE, Integer.MAX_VALUE}) {
            due("change(" + c + ", 0)", desk.web.change(c, 0), -1);
        }
        for (int what : new int[] {-1, 5, Integer.MIN_VALUE, Integer.MAX_VALUE}) {
            due("change(1, " + what + ")", desk.web.change(1, what), -1);
        }
    }

    /** What comes of a row of TEXTS if CHANGE c is then TAKEN BACK. */
    private static String afterBack(int c, String... texts) {
        Desk desk = new Desk();
        for (String s : texts) {
            desk.put("p", s);
        }
        int answer = desk.web.back(c, 1);
        return answer < 0 ? "answer " + answer : desk.text(0);
    }

    private static void back() {
        due("the last", afterBack(2, "abc", "abXc"), "abc");
        due("the first", afterBack(1, "abc", "abXc"), "answer -2");
        due("behind a later one", afterBack(2, "abcdef", "aXcdef", "aXcdYf"), "abcdYf");
        due("with one before it, longer", afterBack(2, "abcdef", "abcdXf", "12abcdXf"), "12abcdef");
        due("with one before it, shorter", afterBack(2, "abcdef", "abcdXf", "cdXf"), "cdef");
        due("at once before it", afterBack(2, "abcdef", "abXdef", "aYXdef"), "answer -2");
        due("at once behind it", afterBack(2, "abcdef", "abXdef", "abXYef"), "answer -2");
        due("put at once before it", afterBack(2, "abcdef", "abXdef", "abYXdef"), "answer -2");
        due("put at once behind it", afterBack(2, "abcdef", "abXdef", "abXYdef"), "answer -2");
        due("one byte between, before", afterBack(2, "abcdef", "abcXef", "aYcXef"), "aYcdef");
        due("one byte between, behind", afterBack(2, "abcdef", "aXcdef", "aXcYef"), "abcYef");
        due("within it", afterBack(2, "ab", "aXYZb", "aX!Zb"), "answer -2");
        due("over it", afterBack(2, "abcdef", "abXdef", "1"), "answer -2");
        due("an empty place", afterBack(2, "abcdef", "abdef", "abdeYf"), "abcdeYf");
        due("an empty place, beside it", afterBack(2, "abcdef", "abdef", "abYdef"), "answer -2");
        due("an empty place, replaced before", afterBack(2, "abcdef", "abdef", "aYdef"), "answer -2");
        due("an empty place, replaced behind", afterBack(2, "abcdef", "abdef", "abYef"), "answer -2");
        due("nothing replaced at the end", afterBack(2, "abc", "abX", "abX"), "answer -2");
        due("nothing replaced elsewhere", afterBack(2, "abcd", "aXcd", "aXcd"), "abcd");
        due("touched and put back", afterBack(2, "abc", "aXc", "aYc", "aXc"), "answer -2");
        due("too long", afterBack(2, times("x", 200) + "abc", "abc", "abc" + times("y", 98)), "answer -3");
        due("just fitting", afterBack(2, times("x", 200) + "abc", "abc", "abc" + times("y", 97)),
            times("x", 200) + "abc" + times("y", 97));
        backOfOthers();
    }

    private static void backOfOthers() {
        Desk desk = new Desk();
        desk.put("p", "abc");
        desk.put("q", "1");
        desk.put("p", "aXc");
        desk.put("q", "YY");
        desk.web.as(2);
        desk.tape("left");
        due("another page's CHANGE is none of it", desk.web.back(3, 8), 5);
        due("change", desk.change(5), "0 8 1 1 1");
        due("the tape stays", desk.web.count(4), 4);
        desk.web.as(-1);
        due("text", desk.text(0), "abc");
        due("blame", desk.blame(0), "1 5 1");
        due("one TAKEN BACK", desk.web.back(3, 0), -2);
        due("taking back TAKEN BACK", desk.web.back(5, 0), 6);
        due("text", desk.text(0), "aXc");
        for (int c : new int[] {0, -1, 7, 121, Integer.MIN_VALUE, Integer.MAX_VALUE}) {
            due("back(" + c + ", 0)", desk.web.back(c, 0), -1);
        }
        for (int hand : new int[] {-1, 10, Integer.MIN_VALUE, Integer.MAX_VALUE}) {
            due("back(6, " + hand + ")", desk.web.back(6, hand), -1);
        }
        desk.name("p");
        desk.web.gone(0);
        due("the page is not there", desk.web.back(6, 0), -2);
        due("GONE by it", desk.web.back(7, 0), -2);
        desk.write("aXc");
        due("GONE since", desk.web.back(6, 0), -2);
        due("GONE by it", desk.web.back(7, 0), -2);
        due("new by it", desk.web.back(8, 0), -2);
        desk.write("aXcd");
        due("since then", desk.web.back(9, 0), 10);
    }

    public static void main(String[] args) {
        next();
        newObject();
        next();
        feed();
        next();
        end();
        next();
        take();
        next();
        name();
        next();
        write();
        next();
        gone();
        next();
        move();
        next();
        rename();
        next();
        as();
        next();
        count();
        next();
        found();
        next();
        out();
        next();
        named();
        next();
        text();
        next();
        read();
        next();
        show();
        next();
        onward();
        next();
        from();
        next();
        wanted();
        next();
        touch();
        next();
        within();
        next();
        members();
        next();
        blame();
        next();
        change();
        next();
        back();
        due("promises gone through", promise, 26);
        Due.exit();
    }
}
