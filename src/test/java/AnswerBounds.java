import java.util.List;

/** The sections "Promise 1" to "7" and "10" to "13": when each call refuses, what it leaves then, and what comes just before. */
public final class AnswerBounds {
    static final int LOW = Integer.MIN_VALUE;
    static final int HIGH = Integer.MAX_VALUE;
    private static final int[] NO_HANDS = {LOW, -2, -1, 10, 11, 256, HIGH};

    /** Some pages, something OUT and FOUND, a NAME at hand. */
    private static Desk some() {
        Desk desk = new Desk();
        desk.put("a", "[[b]] abc");
        desk.put("b", "#to [[c]]");
        desk.put("kind:k", "[[b]]");
        desk.name("b");
        desk.web.from(false);
        desk.web.text(0);
        return desk;
    }

    private static void newPages() {
        Due.by("Promise 1: No pages; no NAME at hand.");
        PageWeb web = new PageWeb();
        for (int what = 0; what < 5; what++) {
            Due.is("count(" + what + ")", web.count(what), 0);
        }
        for (int page = -1; page <= 16; page++) {
            Due.is("named(" + page + ")", web.named(page), -1);
            Due.is("text(" + page + ")", web.text(page), -1);
            Due.is("show(" + page + ")", web.show(page), -1);
            Due.is("within(" + page + ")", web.within(page), -1);
            Due.is("read(" + page + ", 0)", web.read(page, 0), -1);
            Due.is("blame(" + page + ", 0)", web.blame(page, 0), -1);
            Due.is("found(" + page + ")", web.found(page), -1);
            Due.is("out(" + page + ")", web.out(page), -1);
            Due.is("change(" + page + ", 0)", web.change(page, 0), -1);
            Due.is("back(" + page + ", 0)", web.back(page, 0), -1);
        }
        Due.is("as(0)", web.as(0), true);
        Due.is("as(1)", web.as(1), false);
        Due.is("wanted()", web.wanted(), 0);
        Due.is("take()", web.take(), 0);
    }

    private static void noNameYet() {
        Due.by("Promise 1: No pages; no NAME at hand.");
        Desk desk = new Desk();
        Due.is("write", desk.web.write(0), -1);
        Due.is("gone", desk.web.gone(0), -1);
        desk.tape("a");
        Due.is("move", desk.web.move(0), -1);
        desk.tape("a");
        Due.is("rename", desk.web.rename(0), -1);
        Due.is("onward", desk.web.onward(), -1);
        Due.is("from(false)", desk.web.from(false), -1);
        Due.is("from(true)", desk.web.from(true), -1);
        Due.is("touch", desk.web.touch(), -1);
        Due.is("members(0)", desk.web.members(0), -1);
        Due.is("members(1)", desk.web.members(1), -1);
        Due.is("what is no NAME", desk.name("!"), -1);
        Due.is("still none", desk.web.onward(), -1);
        Due.is("count(0)", desk.web.count(0), 0);
        desk.name("a");
        Due.is("one from now on", desk.web.onward(), -2);
    }

    private static void theObjects() {
        Due.by("An object is used for at most 512 calls after it has been made");
        PageWeb one = new PageWeb();
        PageWeb other = new PageWeb();
        one.feed(0x61000000, 0, 0, 0, 0);
        one.end(1);
        one.name();
        for (int call = 4; call <= 511; call++) {
            one.write(0);
        }
        Due.is("the 512th call", one.count(0), 120);
        Due.is("another object", other.count(0), 0);
        Due.is("another object's NAME", other.onward(), -1);
    }

    private static void feedOrder() {
        Due.by("Promise 2: Twenty bytes come behind those on the tape, of each number the highest first: how many there are");
        Desk desk = new Desk();
        desk.name("p");
        Due.is("20", desk.web.feed(0x61626364, 0x65666768, 0x696a6b6c, 0x6d6e6f70, 0x71727374), 20);
        desk.web.end(19);
        Due.is("behind 19", desk.web.feed(0x41424344, 0x45464748, 0x494a4b4c, 0x4d4e4f50, 0x51525354), 39);
        desk.web.write(0);
        Due.is("text", desk.text(0), "abcdefghijklmnopqrsABCDEFGHIJKLMNOPQRST");
        Due.is("bytes of 255", desk.web.feed(-1, -1, -1, -1, -1), 20);
        desk.web.end(1);
        Due.is("are no TEXT", desk.web.write(0), -2);
        Due.is("a byte of 128 ahead", desk.web.feed(LOW | 0x202020, 0x20202020, 0, 0, 0), 20);
        desk.web.end(8);
        Due.is("is no TEXT", desk.web.write(0), -2);
        Due.is("a byte of 127 behind", desk.web.feed(0x2020207f, 0, 0, 0, 0), 20);
        desk.web.end(3);
        Due.is("three of 32", desk.web.write(0), 2);
    }

    private static void feedMost() {
        Due.by("Promise 2: NONE, doing nothing, if there would be more than 400");
        int blank = 0x20202020;
        Desk desk = new Desk();
        for (int n = 20; n <= 380; n += 20) {
            Due.is("feed", desk.web.feed(blank, blank, blank, blank, blank), n);
        }
        Due.is("up to 400", desk.web.feed(blank, blank, blank, blank, 0x2020207a), 400);
        Due.is("beyond 400", desk.web.feed(0x61616161, blank, blank, blank, blank), -1);
        Due.is("count(4)", desk.web.count(4), 400);
        Due.is("the bytes are what they were", desk.web.name(), -2);
        desk.web.write(0);
        Due.is("named", desk.named(0), "z");
        for (int left : new int[] {381, 382, 399}) {
            desk.tape(" ".repeat(left));
            Due.is("at " + left, desk.web.feed(0, 0, 0, 0, 0), -1);
            Due.is("count(4)", desk.web.count(4), left);
        }
        desk.tape(" ".repeat(380));
        Due.is("at 380", desk.web.feed(0, 0, 0, 0, 0), 400);
    }

    private static void ends() {
        Due.by("Promise 3: The tape has its first n bytes alone: true; false, doing nothing, if it has not so many, or n is below 0");
        Desk desk = new Desk();
        Due.is("end(0) of none", desk.web.end(0), true);
        Due.is("end(1) of none", desk.web.end(1), false);
        desk.web.feed(0x61626364, 0x65666768, 0x696a6b6c, 0x6d6e6f70, 0x71727374);
        for (int n : new int[] {LOW, -2, -1, 21, 22, 400, 401, HIGH}) {
            Due.is("end(" + n + ")", desk.web.end(n), false);
            Due.is("count(4)", desk.web.count(4), 20);
        }
        Due.is("end(20)", desk.web.end(20), true);
        Due.is("count(4)", desk.web.count(4), 20);
        Due.is("end(4)", desk.web.end(4), true);
        Due.is("what is cut is gone", desk.web.end(5), false);
        Due.is("end(2)", desk.web.end(2), true);
        Due.is("name", desk.web.name(), -2);
        desk.web.write(0);
        Due.is("the first two", desk.named(0), "ab");
        desk.tape("a".repeat(400));
        Due.is("end(401)", desk.web.end(401), false);
        Due.is("end(400)", desk.web.end(400), true);
        Due.is("end(0)", desk.web.end(0), true);
        Due.is("count(4)", desk.web.count(4), 0);
    }

    private static void takes() {
        Due.by("Promise 4: The tape has what OUT has, its first 400 bytes: how many");
        Desk desk = new Desk();
        desk.tape("old");
        Due.is("of none", desk.web.take(), 0);
        Due.is("the old tape is no more", desk.web.count(4), 0);
        desk.put("m", " ".repeat(200));
        desk.put("p", "{{m}}" + " ".repeat(198) + "z");
        desk.tape("old");
        Due.is("OUT", desk.web.show(1), 399);
        Due.is("of 399", desk.web.take(), 399);
        desk.put("p", "{{m}}" + " ".repeat(199) + "z");
        Due.is("OUT", desk.web.show(1), 400);
        Due.is("of 400", desk.web.take(), 400);
        Due.is("the 400th byte", desk.web.name(), -2);
        desk.web.write(0);
        Due.is("named", desk.named(2), "z");
        desk.put("p", "{{m}}" + " ".repeat(199) + "yx");
        Due.is("OUT", desk.web.show(1), 401);
        Due.is("of 401", desk.web.take(), 400);
        Due.is("count(4)", desk.web.count(4), 400);
        Due.is("OUT is as it was", desk.web.count(3), 401);
        Due.is("without the 401st byte", desk.web.name(), -2);
        desk.web.write(0);
        Due.is("named", desk.named(3), "y");
    }

    private static void takesMost() {
        Due.by("Promise 4: its first 400 bytes");
        Desk desk = new Desk();
        desk.put("m", "x".repeat(250));
        desk.put("p", "{{m}}".repeat(8));
        Due.is("OUT", desk.web.show(1), 2000);
        Due.is("of 2000", desk.web.take(), 400);
        Due.is("feed behind them", desk.web.feed(0, 0, 0, 0, 0), -1);
    }

    private static void names() {
        Due.by("Promise 5: its page (at the TIME asked of), or -2 if there is none; NONE: it is no NAME");
        Desk desk = some();
        Due.is("its page", desk.name("B"), 1);
        Due.is("no page", desk.name("c"), -2);
        Due.is("no NAME", desk.name(""), -1);
        desk.web.as(1);
        Due.is("at TIME 1", desk.name("a"), 0);
        Due.is("not there at TIME 1", desk.name("b"), -2);
        desk.web.as(0);
        Due.is("at TIME 0", desk.name("a"), -2);
        desk.web.as(-1);
        desk.gone("a");
        Due.is("GONE", desk.name("a"), -2);
    }

    private static void namesKept() {
        Due.by("Promise 5: The tape (it goes) is a NAME, which is at hand from now on");
        Desk desk = some();
        desk.name("a");
        Due.is("the tape is no more", desk.web.count(4), 0);
        String before = desk.state();
        for (String s : new String[] {"", " ", "!", "a".repeat(17), "kind:", "\u0000"}) {
            Due.is("no NAME", desk.name(s), -1);
            Due.is("the tape is no more", desk.web.count(4), 0);
        }
        Due.is("all else is as it was", desk.state(), before);
        Due.is("the NAME at hand too", desk.web.onward(), 0);
        desk.name("none");
        Due.is("another one from now on", desk.web.onward(), -2);
        Due.is("its tape too", desk.web.count(4), 0);
    }

    private static void writes() {
        Due.by("Promise 6: The page of the NAME at hand is from now on (a new one, if there is none) the tape (it goes), by a HAND 0 .. 9: the CHANGE");
        Desk desk = new Desk();
        desk.name("a");
        for (int hand = 0; hand <= 9; hand++) {
            desk.tape("text " + hand);
            Due.is("write", desk.web.write(hand), hand + 1);
            Due.is("the tape is no more", desk.web.count(4), 0);
            Due.is("its HAND", desk.web.change(hand + 1, 1), hand);
        }
        Due.is("one page", desk.web.count(1), 1);
        Due.is("its TEXT", desk.text(0), "text 9");
        Due.is("without a tape", desk.web.write(0), 11);
        Due.is("its TEXT", desk.text(0), "");
        desk.web.as(1);
        Due.is("whatever TIME is asked of", desk.write("new"), 12);
        Due.is("which is asked of further", desk.text(0), "text 0");
        desk.web.as(12);
        Due.is("at the new one", desk.text(0), "new");
    }

    private static void writesNot() {
        Due.by("Promise 6: -1 no NAME at hand, no such HAND; -2 it is no TEXT");
        Desk desk = some();
        String before = desk.state();
        for (int hand : NO_HANDS) {
            desk.tape("x");
            Due.is("write(" + hand + ")", desk.web.write(hand), -1);
            Due.is("the tape is no more", desk.web.count(4), 0);
        }
        desk.tape("\t");
        Due.is("-1 before -2", desk.web.write(10), -1);
        for (String s : new String[] {"\t", "a\u007f", "x".repeat(301)}) {
            Due.is("no TEXT", desk.write(s), -2);
            Due.is("the tape is no more", desk.web.count(4), 0);
        }
        Due.is("all else is as it was", desk.state(), before);
        Due.is("its TEXT too", desk.text(1), "#to [[c]]");
        Desk none = new Desk();
        none.tape("x");
        Due.is("no NAME at hand", none.web.write(0), -1);
        Due.is("the tape is no more", none.web.count(4), 0);
        none.name("first");
        Due.is("no TEXT", none.write("\t"), -2);
        Due.is("gives no number", none.put("second", "") + " " + none.name("second"), "1 0");
    }

    private static void writesFull() {
        Due.by("Promise 6: -3 there are 120 CHANGES, or 16 pages");
        Desk desk = some();
        desk.fillTo(119);
        Due.is("the 120th", desk.write("last"), 120);
        desk.web.text(1);
        String before = desk.state();
        Due.is("a 121st", desk.write("x"), -3);
        Due.is("no HAND before that", desk.web.write(10), -1);
        Due.is("no TEXT before that", desk.write("\t"), -2);
        Due.is("all is as it was", desk.state(), before);
        Due.is("its TEXT too", desk.text(1), "last");
        Desk pages = new Desk();
        for (int page = 0; page < 15; page++) {
            pages.name("p" + page);
            pages.web.write(0);
        }
        Due.is("the 16th page", pages.put("p15", "x"), 16);
        Due.is("a 17th", pages.put("p16", "x"), -3);
        Due.is("the tape is no more", pages.web.count(4), 0);
        Due.is("no TEXT before that", pages.write("\t"), -2);
        Due.is("the 16th again", pages.put("p15", "y"), 17);
        Due.is("count(1)", pages.web.count(1), 16);
    }

    private static void goes() {
        Due.by("Promise 7: The page of the NAME at hand is GONE: the CHANGE; -1 also if there is none; -3.");
        Desk desk = some();
        desk.tape("left");
        String before = desk.state();
        for (int hand : NO_HANDS) {
            Due.is("gone(" + hand + ")", desk.web.gone(hand), -1);
        }
        Due.is("all is as it was", desk.state(), before);
        Due.is("gone(9)", desk.web.gone(9), 4);
        Due.is("change", desk.change(4), "1 9 0 9 0");
        Due.is("the tape is as it was", desk.web.count(4), 4);
        Due.is("there is none", desk.web.gone(0), -1);
        Due.is("gone(0)", desk.gone("a"), 5);
        Due.is("never there", desk.gone("c"), -1);
        Due.is("count(0)", desk.web.count(0), 5);
        desk.web.as(3);
        Due.is("there at TIME 3, not at the latest", desk.gone("a"), -1);
        desk.web.as(0);
        Due.is("there at the latest, not at TIME 0", desk.gone("kind:k"), 6);
    }

    private static void goesFull() {
        Due.by("Promise 7: -1 also if there is none; -3.");
        Desk desk = some();
        desk.fillTo(120);
        String before = desk.state();
        Due.is("a 121st", desk.web.gone(0), -3);
        Due.is("no HAND before that", desk.web.gone(10), -1);
        Due.is("all is as it was", desk.state(), before);
        Due.is("still there", desk.web.text(1), 0);
        desk.name("none");
        Due.is("no page before that", desk.web.gone(0), -1);
        Desk pages = new Desk();
        for (int page = 0; page < 16; page++) {
            pages.name("p" + page);
            pages.web.write(0);
        }
        Due.is("16 pages do not matter", pages.web.gone(0), 17);
    }

    private static void times() {
        Due.by("Promise 10: true; false when there is none such");
        Desk desk = some();
        Due.is("as(2)", desk.web.as(2), true);
        desk.name("a");
        for (int t : new int[] {LOW, -3, -2, 4, 5, 120, 121, HIGH}) {
            Due.is("as(" + t + ")", desk.web.as(t), false);
            Due.is("TIME 2 still", desk.web.count(1), 2);
        }
        int[] there = {3, 0, 1, 2, 3};
        for (int t = -1; t <= 3; t++) {
            Due.is("as(" + t + ")", desk.web.as(t), true);
            Due.is("pages at " + t, desk.web.count(1), there[t + 1]);
        }
        desk.put("d", "");
        Due.is("as(4), there now", desk.web.as(4), true);
        Due.is("as(5), not yet", desk.web.as(5), false);
    }

    private static void timesAlone() {
        Due.by("Promise 10: From now on questions are answered for a TIME (NONE: the latest)");
        Desk desk = some();
        String out = desk.out();
        desk.web.as(0);
        Due.is("OUT is as it was", desk.out(), out);
        Due.is("FOUND is as it was", desk.found(), List.of(0, 2));
        Due.is("the NAME at hand is, without a page", desk.web.onward(), -2);
        desk.web.as(-1);
        desk.put("c", "x");
        desk.name("b");
        Due.is("the latest", desk.web.onward(), 3);
        desk.web.as(3);
        Due.is("TIME 3", desk.web.onward(), -2);
    }

    private static void counts() {
        Due.by("Promise 11: 0 CHANGES, 1 pages that are there, 2 pages FOUND, 3 bytes of OUT, 4 bytes of the tape. NONE for others.");
        Desk desk = some();
        desk.tape("tape");
        int[] want = {3, 3, 2, 9, 4};
        for (int what = 0; what <= 4; what++) {
            Due.is("count(" + what + ")", desk.web.count(what), want[what]);
        }
        for (int what : new int[] {LOW, -2, -1, 5, 6, HIGH}) {
            Due.is("count(" + what + ")", desk.web.count(what), -1);
        }
        desk.gone("a");
        Due.is("a CHANGE more", desk.web.count(0), 4);
        Due.is("a page less", desk.web.count(1), 2);
    }

    private static void founds() {
        Due.by("Promise 12: Page FOUND k; NONE when there is none such");
        Desk desk = some();
        Due.is("found(0)", desk.web.found(0), 0);
        Due.is("found(1)", desk.web.found(1), 2);
        for (int k : new int[] {LOW, -1, 2, 3, 15, 16, 17, HIGH}) {
            Due.is("found(" + k + ")", desk.web.found(k), -1);
        }
        desk.name("none");
        desk.web.from(false);
        Due.is("none FOUND", desk.web.found(0), -1);
        Desk full = new Desk();
        for (int page = 0; page < 16; page++) {
            full.put("p" + page, "[[x]]");
        }
        full.name("x");
        Due.is("all FOUND", full.web.from(false), 16);
        Due.is("found(15)", full.web.found(15), 15);
        Due.is("found(16)", full.web.found(16), -1);
    }

    private static void outs() {
        Due.by("Promise 13: Byte i of OUT; NONE when there is none such");
        Desk desk = some();
        Due.is("out(0)", desk.web.out(0), (int) '[');
        Due.is("out(8)", desk.web.out(8), (int) 'c');
        for (int i : new int[] {LOW, -1, 9, 10, 1999, 2000, 2001, HIGH}) {
            Due.is("out(" + i + ")", desk.web.out(i), -1);
        }
        desk.put("m", "x".repeat(249) + "y");
        desk.put("p", "{{m}}".repeat(8));
        desk.web.show(4);
        Due.is("out(1998)", desk.web.out(1998), (int) 'x');
        Due.is("out(1999)", desk.web.out(1999), (int) 'y');
        Due.is("out(2000)", desk.web.out(2000), -1);
        desk.web.named(0);
        Due.is("out(0) of one byte", desk.web.out(0), (int) 'a');
        Due.is("out(1) of one byte", desk.web.out(1), -1);
    }

    public static void main(String[] args) {
        newPages();
        noNameYet();
        theObjects();
        feedOrder();
        feedMost();
        ends();
        takes();
        takesMost();
        names();
        namesKept();
        writes();
        writesNot();
        writesFull();
        goes();
        goesFull();
        times();
        timesAlone();
        counts();
        founds();
        outs();
        Due.exit();
    }
}
