/** The sections "Promise 24" to "26": who put a byte, what a CHANGE did, and when one is TAKEN BACK. */
public final class ChangeBounds {
    private static final int LOW = Integer.MIN_VALUE;
    private static final int HIGH = Integer.MAX_VALUE;
    private static final int[] NO_HANDS = {LOW, -2, -1, 10, 11, 256, HIGH};

    private static Desk written(String... texts) {
        Desk desk = new Desk();
        desk.name("p");
        for (String s : texts) {
            desk.write(s);
        }
        return desk;
    }

    private static void blames() {
        Due.by("Promise 24: The CHANGE that put byte i of a page's TEXT");
        Desk desk = written("abc", "abXYc", "Xc", "");
        desk.put("q", "abc");
        desk.name("p");
        desk.write("abc");
        String[] at = {"", "1 1 1", "1 1 2 2 1", "3 1", "", "", "6 6 6"};
        for (int t = 0; t <= 6; t++) {
            desk.web.as(t);
            Due.is("at TIME " + t, desk.blame(0), at[t]);
            Due.is("of the other one at TIME " + t, desk.blame(1), t < 5 ? "" : "5 5 5");
        }
    }

    private static void blamesOthers() {
        Due.by("Promise 24: The CHANGE that put byte i of a page's TEXT");
        Desk desk = written("abc", "axc");
        desk.put("q", "see [[p]]");
        desk.name("p");
        desk.rename("r");
        Due.is("of the new page, the one that made it", desk.blame(2), "4 4 4");
        Due.is("of the old page", desk.blame(0), "5 5 5 5 5 5 5 5 5");
        Due.is("of one with a LINK", desk.blame(1), "3 3 3 3 3 3 6 3 3");
        desk.web.back(6, 0);
        Due.is("of what was TAKEN BACK", desk.blame(1), "3 3 3 3 3 3 7 3 3");
        desk.put("r", "axc");
        Due.is("of the same TEXT again", desk.blame(2), "4 4 4");
        desk.gone("r");
        desk.put("r", "axc");
        Due.is("of what was GONE between", desk.blame(2), "10 10 10");
    }

    private static void blamesNone() {
        Due.by("Promise 24: NONE when there is none such");
        Desk desk = written("x".repeat(299) + "y");
        desk.put("q", "");
        desk.put("r", "z");
        desk.gone("r");
        Due.is("the first", desk.web.blame(0, 0), 1);
        Due.is("the last", desk.web.blame(0, 299), 1);
        for (int i : new int[] {LOW, -2, -1, 300, 301, HIGH}) {
            Due.is("blame(0, " + i + ")", desk.web.blame(0, i), -1);
        }
        for (int i = -1; i <= 1; i++) {
            for (int page : new int[] {LOW, -2, -1, 1, 2, 3, 4, 15, 16, 17, HIGH}) {
                Due.is("blame(" + page + ", " + i + ")", desk.web.blame(page, i), -1);
            }
        }
        desk.web.as(3);
        Due.is("as it was before it was GONE", desk.web.blame(2, 0) + " " + desk.web.blame(2, 1), "3 -1");
        desk.web.as(0);
        Due.is("at TIME 0", desk.web.blame(0, 0), -1);
        Desk full = new Desk();
        for (int page = 0; page < 16; page++) {
            full.put("p" + page, "x");
        }
        Due.is("of page 15", full.web.blame(15, 0), 16);
        Due.is("of page 16", full.web.blame(16, 0), -1);
    }

    private static void blamesLast() {
        Due.by("Promise 24: The CHANGE that put byte i");
        Desk desk = written("ab");
        desk.fillTo(118);
        desk.write("ac");
        desk.write("abc");
        Due.is("the 119th and the 120th", desk.blame(0), "119 120 119");
    }

    private static void changes() {
        Due.by("Promise 25: 0 its page, 1 its HAND, 2 where what it replaced began, 3 how many bytes that was, 4 how many came");
        Desk desk = new Desk();
        desk.put("p", "abc");
        desk.put("q", "");
        desk.name("p");
        desk.tape("abXYZ");
        desk.web.write(9);
        desk.web.gone(5);
        desk.tape("x".repeat(300));
        desk.web.write(1);
        desk.web.gone(2);
        String[] want = {"0 0 0 0 3", "1 0 0 0 0", "0 9 2 1 3", "0 5 0 5 0", "0 1 0 0 300", "0 2 0 300 0"};
        for (int t : new int[] {-1, 0, 3}) {
            desk.web.as(t);
            for (int c = 1; c <= want.length; c++) {
                Due.is("change " + c + " at TIME " + t, desk.change(c), want[c - 1]);
            }
        }
    }

    private static void changesByOthers() {
        Due.by("Promise 25: Of a CHANGE: 0 its page, 1 its HAND");
        Desk desk = written("see [[p]]");
        desk.tape("q");
        desk.web.rename(8);
        desk.web.back(4, 7);
        desk.tape("r");
        desk.name("q");
        desk.tape("r");
        desk.web.move(6);
        String[] want = {"0 0 0 0 9", "1 8 0 0 9", "0 8 0 7 7", "1 8 6 1 1", "1 7 6 1 1", "2 6 0 0 9", "1 6 0 7 7", "0 6 6 1 1"};
        for (int c = 1; c <= want.length; c++) {
            Due.is("change " + c, desk.change(c), want[c - 1]);
        }
        Due.is("count(0)", desk.web.count(0), want.length);
    }

    private static void changesNone() {
        Due.by("Promise 25: NONE when there is none such");
        Desk none = new Desk();
        Due.is("of none", none.web.change(0, 0) + " " + none.web.change(1, 0), "-1 -1");
        Desk desk = written("abc", "aXc");
        for (int what = -1; what <= 5; what++) {
            for (int c : new int[] {LOW, -2, -1, 0, 3, 4, 120, 121, HIGH}) {
                Due.is("change(" + c + ", " + what + ")", desk.web.change(c, what), -1);
            }
        }
        for (int what : new int[] {LOW, -2, -1, 5, 6, HIGH}) {
            Due.is("change(2, " + what + ")", desk.web.change(2, what), -1);
        }
        Due.is("the first", desk.change(1), "0 0 0 0 3");
        Due.is("the last", desk.change(2), "0 0 1 1 1");
        desk.fillTo(119);
        Due.is("change(120)", desk.web.change(120, 0), -1);
        desk.tape("z");
        desk.web.write(3);
        Due.is("change(120)", desk.change(120), "0 3 0 0 1");
        Due.is("change(121)", desk.web.change(121, 0), -1);
    }

    private static void takenBack() {
        Due.by("Promise 26: A CHANGE is TAKEN BACK by a HAND (at the latest TIME): the CHANGE that does it");
        Desk desk = written("abcdef", "aXcdef", "aXcdYYf");
        desk.tape("left");
        for (int hand = 0; hand <= 9; hand += 9) {
            int number = 4 + hand / 9;
            Due.is("by HAND " + hand, desk.web.back(hand == 0 ? 2 : 3, hand), number);
            Due.is("its HAND", desk.web.change(number, 1), hand);
        }
        Due.is("the tape is as it was", desk.web.count(4), 4);
        Due.is("TEXT", desk.text(0), "abcdef");
        Due.is("what it replaced", desk.change(4) + ", " + desk.change(5), "0 0 1 1 1, 0 9 4 2 1");
        Due.is("BLAME", desk.blame(0), "1 4 1 1 5 1");
        desk.web.as(2);
        Due.is("at the latest, not at TIME 2", desk.web.back(4, 0), 6);
        Due.is("at TIME 2 it is as it was", desk.text(0), "aXcdef");
        desk.web.as(-1);
        Due.is("TEXT", desk.text(0), "aXcdef");
        desk.name("none");
        Due.is("whatever NAME is at hand", desk.web.back(5, 0), 7);
        Due.is("TEXT", desk.text(0), "aXcdYYf");
    }

    private static void takenBackUnnamed() {
        Due.by("Promise 26: A CHANGE is TAKEN BACK by a HAND (at the latest TIME)");
        Desk desk = written("abc", "");
        Due.is("one that brought nothing", desk.web.back(2, 0), 3);
        Due.is("TEXT", desk.text(0), "abc");
        desk.put("q", "#to [[p]]");
        desk.put("q", "");
        Due.is("of another page than the one before", desk.web.back(5, 0), 6);
        Due.is("it is read", desk.web.read(1, 3), 0);
        desk.web.as(0);
        Due.is("at TIME 0", desk.web.back(6, 0), 7);
        Due.is("there is no page still", desk.web.text(1), -1);
    }

    private static void noneSuch() {
        Due.by("Promise 26: -1 no such CHANGE, HAND");
        Desk none = new Desk();
        Due.is("of none", none.web.back(1, 0) + " " + none.web.back(0, 0), "-1 -1");
        Desk desk = written("abc", "aXc");
        desk.web.text(0);
        String before = desk.state();
        for (int c : new int[] {LOW, -2, -1, 0, 3, 4, 120, 121, HIGH}) {
            Due.is("back(" + c + ", 0)", desk.web.back(c, 0), -1);
        }
        for (int hand : NO_HANDS) {
            Due.is("back(2, " + hand + ")", desk.web.back(2, hand), -1);
            Due.is("-1 before -2", desk.web.back(1, hand), -1);
        }
        desk.web.as(1);
        desk.web.as(-1);
        Due.is("all is as it was", desk.state(), before);
        Due.is("TEXT too", desk.text(0), "aXc");
        Due.is("the last one", desk.web.back(2, 0), 3);
        Due.is("now there is a third", desk.web.back(3, 0), 4);
    }

    private static void cannotBe() {
        Due.by("Promise 26: -2 it can't be");
        Desk desk = written("abc", "aXc", "aYc");
        desk.web.text(0);
        String before = desk.state();
        Due.is("it made the page", desk.web.back(1, 0), -2);
        Due.is("a later one replaced what it brought", desk.web.back(2, 0), -2);
        Due.is("all is as it was", desk.state(), before);
        Due.is("TEXT too", desk.text(0), "aYc");
        desk.gone("p");
        for (int c = 1; c <= 4; c++) {
            Due.is("back(" + c + ") of one that is GONE", desk.web.back(c, 0), -2);
        }
        desk.web.as(3);
        Due.is("though it was there", desk.web.back(3, 0), -2);
        Due.is("count(0)", desk.web.count(0), 4);
    }

    private static void tooManyChanges() {
        Due.by("Promise 26: -3 as for write()");
        Desk desk = written("abc", "aXc");
        desk.name("q");
        desk.fillTo(119);
        Due.is("the 120th", desk.web.back(2, 4), 120);
        Due.is("TEXT", desk.text(0), "abc");
        String before = desk.state();
        Due.is("a 121st", desk.web.back(120, 0), -3);
        Due.is("-2 before that", desk.web.back(2, 0), -2);
        Due.is("-1 before that", desk.web.back(120, 10) + " " + desk.web.back(121, 0), "-1 -1");
        Due.is("all is as it was", desk.state(), before);
        Due.is("TEXT too", desk.text(0), "abc");
        Desk pages = new Desk();
        for (int page = 0; page < 16; page++) {
            pages.put("p" + page, "abc");
        }
        pages.put("p3", "aXc");
        Due.is("16 pages do not matter, as none comes", pages.web.back(17, 0), 18);
    }

    private static void tooLong() {
        Due.by("Promise 26: -3 .. or the TEXT would be too long");
        String much = "x".repeat(200);
        Desk just = written(much + "abc", "abc", "abc" + "y".repeat(97));
        Due.is("300 bytes", just.web.back(2, 0), 4);
        Due.is("TEXT", just.text(0), much + "abc" + "y".repeat(97));
        Desk over = written(much + "abc", "abc", "abc" + "y".repeat(98));
        over.web.named(0);
        String before = over.state();
        Due.is("301 bytes", over.web.back(2, 0), -3);
        Due.is("all is as it was", over.state(), before);
        Due.is("TEXT too", over.text(0), "abc" + "y".repeat(98));
        Due.is("another one can be", over.web.back(3, 0), 4);
        Due.is("and then it", over.web.back(2, 0), 5);
        Due.is("TEXT", over.text(0), much + "abc");
        Desk behind = written("abc" + much, "abc", "y".repeat(98) + "abc");
        Due.is("301 bytes, the rest behind", behind.web.back(2, 0), -3);
        Desk just2 = written("abc" + much, "abc", "y".repeat(97) + "abc");
        Due.is("300 bytes, the rest behind", just2.web.back(2, 0), 4);
        Desk most = written("a" + much + "c", "ac", "ac" + "y".repeat(97), "yac" + "y".repeat(97));
        Due.is("300 bytes, the rest within", most.web.back(2, 0), 5);
        Desk within = written("a" + much + "c", "ac", "ac" + "y".repeat(98), "yac" + "y".repeat(98));
        Due.is("301 bytes, the rest within", within.web.back(2, 0), -3);
    }

    private static void longest() {
        Due.by("Promise 26: -3 .. or the TEXT would be too long");
        String most = "x".repeat(300);
        Desk desk = written(most, "", "y");
        Due.is("beside it", desk.web.back(2, 0), -2);
        Due.is("back(3)", desk.web.back(3, 0), 4);
        Due.is("that one was beside it, too", desk.web.back(2, 0), -2);
        Desk two = written("abcdef" + "x".repeat(294), "abcdef", "abZdef", "abcdef");
        Due.is("300 bytes again", two.web.back(2, 0), 5);
        Due.is("TEXT", two.web.text(0), 300);
        Desk three = written("abcdef" + "x".repeat(294), "abcdef", "Zabcdef");
        Due.is("301", three.web.back(2, 0), -3);
    }

    public static void main(String[] args) {
        blames();
        blamesOthers();
        blamesNone();
        blamesLast();
        changes();
        changesByOthers();
        changesNone();
        takenBack();
        takenBackUnnamed();
        noneSuch();
        cannotBe();
        tooManyChanges();
        tooLong();
        longest();
        Due.exit();
    }
}
