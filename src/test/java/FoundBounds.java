import java.util.ArrayList;
import java.util.List;

/** The sections "Promise 19" to "23": which pages are FOUND, which NAMES are OUT, up to the bounds and beyond them. */
public final class FoundBounds {
    private static final int LOW = Integer.MIN_VALUE;
    private static final int HIGH = Integer.MAX_VALUE;
    private static final String SIXTEEN = "abcdefghijklmnop";

    private static String from(Desk desk, boolean through) {
        return desk.web.from(through) + " " + desk.found();
    }

    private static String touch(Desk desk) {
        return desk.web.touch() + " " + desk.found();
    }

    private static String members(Desk desk, int what) {
        return desk.web.members(what) + " " + desk.found();
    }

    private static String wanted(Desk desk) {
        int n = desk.web.wanted();
        return n + " " + desk.out().replace('\n', ',');
    }

    private static String within(Desk desk, int page) {
        int n = desk.web.within(page);
        return n + " " + desk.out().replace('\n', ',');
    }

    private static void noName() {
        for (boolean named : new boolean[] {false, true}) {
            Desk desk = new Desk();
            if (named) {
                desk.name("a!");
            }
            Due.by("Promise 19: NONE without a NAME at hand");
            Due.is("from(false)", desk.web.from(false), -1);
            Due.is("from(true)", desk.web.from(true), -1);
            Due.by("Promise 21: NONE without a NAME at hand");
            Due.is("touch()", desk.web.touch(), -1);
            Due.by("Promise 23: NONE: no KIND at hand, or for others");
            Due.is("members(0)", desk.web.members(0), -1);
            Due.is("members(1)", desk.web.members(1), -1);
            Due.is("nothing is FOUND", desk.web.count(2), 0);
            desk.name("kind:a");
            Due.is("with one", desk.web.from(false) + " " + desk.web.from(true) + " " + desk.web.touch() + " "
                + desk.web.members(0) + " " + desk.web.members(1), "0 0 0 0 0");
        }
    }

    private static void linksTo() {
        Due.by("Promise 19: FOUND are the pages, in order, with a LINK to the NAME at hand");
        Desk desk = new Desk();
        String[] all = {"[[a]]", "a", "{{a}}", "[[b|a]]", "x[[ _A|b]]y", "[[kind:a]]", "#to [[a]]", "[[ab]][[a]", "[[a]][[a]]"};
        for (int page = 0; page < all.length; page++) {
            desk.put("p" + page, all[page]);
        }
        desk.name("a");
        Due.is("to no page", from(desk, false), "4 [0, 4, 6, 8]");
        desk.put("a", "[[a]]");
        Due.is("to one that is there, itself", from(desk, false), "5 [0, 4, 6, 8, 9]");
        desk.put("p0", "");
        desk.gone("p8");
        desk.name("a");
        Due.is("without those that were", from(desk, false), "3 [4, 6, 9]");
        desk.name("kind:a");
        Due.is("to a KIND", from(desk, false), "1 [5]");
        desk.name("c");
        Due.is("to what none leads to", from(desk, false), "0 []");
        desk.name("a");
        String[] at = {"0 []", "1 [0]", "1 [0]", "1 [0]", "1 [0]", "2 [0, 4]", "2 [0, 4]", "3 [0, 4, 6]", "3 [0, 4, 6]", "4 [0, 4, 6, 8]"};
        for (int t = 0; t <= 9; t++) {
            desk.web.as(t);
            Due.is("at TIME " + t, from(desk, false), at[t]);
            Due.is("through, at TIME " + t, from(desk, true), at[t]);
        }
    }

    private static void linksThrough() {
        Due.by("Promise 19: through: or to one from which it comes ONWARD on the way (the NAME at hand itself counted, rings too)");
        Desk desk = new Desk();
        desk.put("one", "[[m1]]");
        desk.put("two", "[[m2]]");
        desk.put("goal", "[[goal]]");
        desk.put("end", "[[end]]");
        desk.put("m1", "#to [[m2]]");
        desk.put("m2", "#to [[goal]]");
        desk.name("goal");
        Due.is("not through", from(desk, false), "2 [2, 5]");
        Due.is("through", from(desk, true), "5 [0, 1, 2, 4, 5]");
        desk.put("goal", "#to [[end]]");
        desk.name("goal");
        Due.is("on the way, not at its end", from(desk, true), "4 [0, 1, 4, 5]");
        desk.name("end");
        Due.is("at its end", from(desk, true), "6 [0, 1, 2, 3, 4, 5]");
        Due.is("not through", from(desk, false), "2 [2, 3]");
        desk.gone("end");
        Due.is("at the end, without a page", from(desk, true), "5 [0, 1, 2, 4, 5]");
        desk.put("goal", "#to [[m1]]");
        desk.name("m2");
        Due.is("in a ring", from(desk, true), "5 [0, 1, 2, 4, 5]");
        desk.put("m1", "#to [[m1]]");
        desk.name("goal");
        Due.is("behind a ring that it is not in", from(desk, true), "2 [1, 5]");
        desk.name("m1");
        Due.is("MOVED to itself", from(desk, true), "5 [0, 1, 2, 4, 5]");
    }

    private static void linksMost() {
        Due.by("Promise 19: through: or to one from which it comes ONWARD on the way");
        Desk desk = new Desk();
        for (int page = 0; page < 16; page++) {
            desk.put("p" + page, "#to [[p" + (page + 1) + "]]");
        }
        desk.name("p16");
        Due.is("through 16 that are MOVED", desk.web.from(true), 16);
        Due.is("the last", desk.web.found(15), 15);
        Due.is("not through", from(desk, false), "1 [15]");
        desk.name("p15");
        Due.is("one before the end", desk.web.from(true), 15);
        Due.is("the next one beyond", desk.web.found(15), -1);
        desk.name("p1");
        Due.is("the second", from(desk, true), "1 [0]");
        desk.name("p0");
        Due.is("the first", from(desk, true), "0 []");
        desk.put("p15", "#to [[p0]]");
        desk.name("p0");
        Due.is("16 in a ring", desk.web.from(true), 16);
    }

    private static void wants() {
        Due.by("Promise 20: OUT are the NAMES that LINKS (not to KINDS) ask for and no page has, each with 10 behind it");
        Desk desk = new Desk();
        Due.is("of no page", wanted(desk), "0 ");
        desk.put("a", "");
        desk.web.named(0);
        Due.is("of no LINK", wanted(desk), "0 ");
        desk.put("a", "[[a]][[ _A|x]][[kind:k]]{{b}}[[!]]");
        Due.is("of none asked for", wanted(desk), "0 ");
        desk.put("a", "[[B_c|x]][[b]]{{q}}");
        Due.is("FOLDED", wanted(desk), "2 b,b c,");
        desk.put("c", "#to [[b]]");
        desk.put("kind:k", "[[b]][[kind:k]][[k]]");
        Due.is("each once", wanted(desk), "3 b,b c,k,");
        desk.put("b", "");
        Due.is("without those that are there", wanted(desk), "2 b c,k,");
        desk.gone("b");
        Due.is("with those that are GONE", wanted(desk), "3 b,b c,k,");
        desk.gone("a");
        Due.is("without what a GONE page asks for", wanted(desk), "2 b,k,");
        String[] at = {"0 ", "0 ", "0 ", "2 b,b c,", "2 b,b c,", "3 b,b c,k,", "2 b c,k,", "3 b,b c,k,", "2 b,k,"};
        for (int t = 0; t <= 8; t++) {
            desk.web.as(t);
            Due.is("at TIME " + t, wanted(desk), at[t]);
        }
    }

    private static void wantsOrder() {
        Due.by("Promise 20: by bytes (what ends first is ahead)");
        Desk desk = new Desk();
        desk.put("p0", "[[z]][[b]][[a0]][[a]][[9]][[0]][[a a]][[aa]][[a b]][[ab]][[a9]][[kind]]");
        Due.is("short ones", wanted(desk), "12 0,9,a,a a,a b,a0,a9,aa,ab,b,kind,z,");
        String[] longs = {SIXTEEN, "abcdefghijklmnoo", "abcdefghijklmno", "abcdefghijklmnoq", "abcdefgh", "abcdefg", "abcdefghi",
            "abcdefgi", "abcdefg h", "abcdefgh i", "abcdefgha"};
        StringBuilder text = new StringBuilder();
        for (String s : longs) {
            text.append("[[").append(s).append("]]");
        }
        desk.put("p0", text.toString());
        Due.is("long ones", wanted(desk), "11 abcdefg,abcdefg h,abcdefgh,abcdefgh i,abcdefgha,abcdefghi,abcdefghijklmno,"
            + "abcdefghijklmnoo,abcdefghijklmnop,abcdefghijklmnoq,abcdefgi,");
    }

    /** So many NAMES of 16 bytes, and one of so many bytes, each asked for by one LINK. */
    private static List<String> longNames(int number, int last) {
        List<String> all = new ArrayList<>();
        for (int k = 0; k < number; k++) {
            all.add("abcdefghijklm" + (100 + k));
        }
        all.add(SIXTEEN.substring(0, last));
        return all;
    }

    /** Pages from the given number on whose LINKS have these NAMES inside. */
    private static void linking(Desk desk, int page, List<String> names) {
        StringBuilder text = new StringBuilder();
        int next = page;
        for (String s : names) {
            if (text.length() + s.length() + 4 > 300) {
                desk.put("p" + next, text.toString());
                next++;
                text.setLength(0);
            }
            text.append("[[").append(s).append("]]");
        }
        desk.put("p" + next, text.toString());
    }

    private static void wantsMost() {
        Due.by("Promise 20: -2 if they have more than 2000 bytes (OUT stays)");
        Desk desk = new Desk();
        linking(desk, 0, longNames(117, 10));
        Due.is("2000 bytes", desk.web.wanted(), 118);
        Due.is("count(3)", desk.web.count(3), 2000);
        Due.is("the last", desk.web.out(1999) + " " + desk.web.out(1998), "10 " + (int) '6');
        int changes = desk.web.count(0);
        desk.put("q", "[[a]][[A]][[abcdefghij]]{{x}}[[kind:x]][[q]][[p0]]");
        Due.is("2002 with one of a byte more", desk.web.wanted(), -2);
        desk.gone("q");
        linking(desk, 0, longNames(117, 11));
        desk.web.named(0);
        Due.is("2001 bytes", desk.web.wanted(), -2);
        Due.is("OUT stays", desk.out(), "p0");
        desk.put("a", "");
        desk.web.as(changes);
        Due.is("as it was", desk.web.wanted(), 118);
        Due.is("count(3)", desk.web.count(3), 2000);
        Desk same = new Desk();
        for (int page = 0; page < 16; page++) {
            same.put("p" + page, ("[[" + SIXTEEN + "]]").repeat(15));
        }
        Due.is("240 LINKS to one NAME", same.web.wanted(), 1);
        Due.is("count(3)", same.web.count(3), 17);
    }

    private static void wantsWithoutPages() {
        Due.by("Promise 20: -2 if they have more than 2000 bytes");
        Desk desk = new Desk();
        linking(desk, 0, longNames(118, 10));
        Due.is("2017 bytes", desk.web.wanted(), -2);
        desk.put("abcdefghijklm100", "");
        Due.is("2000 without one that is there", desk.web.wanted(), 118);
        Desk shortOnes = new Desk();
        List<String> all = new ArrayList<>();
        for (int k = 0; k < 660; k++) {
            all.add(Integer.toString(36 + k, 36));
        }
        linking(shortOnes, 0, all);
        Due.is("660 of 3 bytes", shortOnes.web.wanted(), 660);
        Due.is("count(3)", shortOnes.web.count(3), 1980);
    }

    private static void touches() {
        Due.by("Promise 21: that page, if it is there, and each that has in its TEXT a SHOWING of a NAME .. to it");
        Desk desk = new Desk();
        desk.put("a", "{{x}}{{z}}");
        desk.put("b", "[[z]]z");
        desk.put("c", "{{ _Z |w}}");
        desk.name("z");
        Due.is("it is not there", touch(desk), "2 [0, 2]");
        desk.put("z", "");
        Due.is("it is there", touch(desk), "3 [0, 2, 3]");
        desk.name("b");
        Due.is("itself alone", touch(desk), "1 [1]");
        desk.name("none");
        Due.is("none at all", touch(desk), "0 []");
        desk.put("z", "{{z}}");
        Due.is("it shows itself", touch(desk), "3 [0, 2, 3]");
        desk.gone("z");
        Due.is("GONE", touch(desk), "2 [0, 2]");
        desk.put("kind:z", "{{kind:z}}");
        Due.is("a KIND", touch(desk), "1 [4]");
        desk.name("z");
        String[] at = {"0 []", "1 [0]", "1 [0]", "2 [0, 2]", "3 [0, 2, 3]", "3 [0, 2, 3]", "2 [0, 2]"};
        for (int t = 0; t <= 6; t++) {
            desk.web.as(t);
            Due.is("at TIME " + t, touch(desk), at[t]);
        }
    }

    private static void touchesOnward() {
        Due.by("Promise 21: a SHOWING of a NAME from which one comes ONWARD, or on the way, to it, or to a NAME of a page that is FOUND; and so on");
        Desk desk = new Desk();
        desk.put("m", "#to [[n]]");
        desk.put("n", "#to [[z]]");
        desk.put("a", "{{m}}");
        desk.put("b", "{{n}}");
        desk.put("z", "#to [[end]]");
        desk.put("end", "");
        desk.put("c", "{{end}}");
        desk.name("z");
        Due.is("on the way", touch(desk), "3 [2, 3, 4]");
        desk.name("end");
        Due.is("in the end", touch(desk), "4 [2, 3, 5, 6]");
        desk.name("n");
        Due.is("not those behind it", touch(desk), "3 [1, 2, 3]");
        desk.put("z", "#to [[m]]");
        desk.name("z");
        Due.is("in a ring", touch(desk), "3 [2, 3, 4]");
        desk.put("r", "#to [[a]]");
        desk.put("d", "{{r}}");
        desk.name("z");
        Due.is("to a page that is FOUND, ONWARD", touch(desk), "4 [2, 3, 4, 8]");
        desk.put("a", "#to {{m}}[[x]]");
        desk.name("z");
        Due.is("what is not MOVED", touch(desk), "4 [2, 3, 4, 8]");
        desk.put("a", "#to [[x]]");
        desk.put("b", "{{d}}");
        desk.put("d", "{{b}}");
        desk.name("z");
        Due.is("some that show each other alone", touch(desk), "1 [4]");
        desk.name("d");
        Due.is("one of these", touch(desk), "2 [3, 8]");
    }

    private static void touchesMost() {
        Due.by("Promise 21: and so on");
        Desk up = new Desk();
        Desk down = new Desk();
        for (int page = 0; page < 16; page++) {
            up.put("p" + page, "{{p" + (page + 1) + "}}");
            down.put("p" + page, "{{p" + (page - 1) + "}}");
        }
        up.name("p16");
        Due.is("16 steps", up.web.touch(), 16);
        Due.is("the last", up.web.found(15) + " " + up.web.found(16), "15 -1");
        up.name("p14");
        Due.is("without the last", up.web.touch(), 15);
        up.name("p0");
        Due.is("the first alone", touch(up), "1 [0]");
        down.name("p0");
        Due.is("15 steps", down.web.touch(), 16);
        down.name("p15");
        Due.is("the last alone", touch(down), "1 [15]");
    }

    private static void kindsOf() {
        Due.by("Promise 22: OUT are the KINDS above a page, each with 10 behind it, by the fewest steps, then by bytes: how many");
        Desk desk = new Desk();
        desk.put("p", "");
        Due.is("none", within(desk, 0), "0 ");
        desk.put("p", "[[k]]{{kind:k}}[[kind:]]kind:k");
        Due.is("none", within(desk, 0), "0 ");
        desk.put("p", "[[kind:b]][[KIND: A|x]][[kind:b]][[kind:a b]][[kind:a0]]");
        Due.is("in one step", within(desk, 0), "4 kind:a,kind:a b,kind:a0,kind:b,");
        desk.put("kind:b", "[[kind:0]][[kind:c]]");
        desk.put("kind:a", "[[kind:b]][[kind:9]]");
        Due.is("in two", within(desk, 0), "7 kind:a,kind:a b,kind:a0,kind:b,kind:0,kind:9,kind:c,");
        desk.put("kind:0", "[[kind:zz]][[kind:a]][[kind:0]]");
        Due.is("in three, none twice", within(desk, 0), "8 kind:a,kind:a b,kind:a0,kind:b,kind:0,kind:9,kind:c,kind:zz,");
        Due.is("of a KIND's page, itself too", within(desk, 3), "6 kind:0,kind:a,kind:zz,kind:9,kind:b,kind:c,");
        desk.gone("kind:b");
        Due.is("none above what is GONE", within(desk, 0), "5 kind:a,kind:a b,kind:a0,kind:b,kind:9,");
        String[] at = {"-1", "0 ", "0 ", "4 kind:a,kind:a b,kind:a0,kind:b,",
            "6 kind:a,kind:a b,kind:a0,kind:b,kind:0,kind:c,"};
        for (int t = 1; t <= 4; t++) {
            desk.web.as(t);
            Due.is("at TIME " + t, within(desk, 0), at[t]);
        }
    }

    private static void kindsFewestSteps() {
        Due.by("Promise 22: by the fewest steps, then by bytes");
        Desk desk = new Desk();
        desk.put("p", "[[kind:x]][[kind:y]]");
        desk.put("kind:x", "[[kind:m]]");
        desk.put("kind:m", "[[kind:far]]");
        desk.put("kind:y", "[[kind:n]][[kind:far]]");
        desk.put("kind:n", "[[kind:a]]");
        Due.is("by the shorter way", within(desk, 0), "6 kind:x,kind:y,kind:far,kind:m,kind:n,kind:a,");
        desk.put("p", "[[kind:x]][[kind:y]][[kind:a]]");
        Due.is("by the shortest", within(desk, 0), "6 kind:a,kind:x,kind:y,kind:far,kind:m,kind:n,");
        Desk chain = new Desk();
        StringBuilder want = new StringBuilder("16 ");
        for (int page = 0; page < 16; page++) {
            chain.put("kind:" + (char) ('q' - page), "[[kind:" + (char) ('p' - page) + "]]");
            want.append("kind:").append((char) ('p' - page)).append(',');
        }
        Due.is("16 steps", within(chain, 0), want.toString());
        Due.is("one step, the last page", within(chain, 15), "1 kind:a,");
    }

    private static void kindsNone() {
        Due.by("Promise 22: -1 it is not there");
        Desk desk = new Desk();
        desk.put("p", "[[kind:k]]");
        desk.put("q", "[[kind:k]]");
        desk.gone("q");
        desk.web.named(0);
        for (int page : new int[] {LOW, -2, -1, 1, 2, 15, 16, 17, HIGH}) {
            Due.is("within(" + page + ")", desk.web.within(page), -1);
        }
        desk.web.as(0);
        Due.is("at TIME 0", desk.web.within(0), -1);
        desk.web.as(1);
        Due.is("before it came", desk.web.within(1), -1);
        Due.is("OUT is as it was", desk.out(), "p");
        desk.web.as(2);
        Due.is("at a TIME when it was", desk.web.within(1), 1);
        Desk full = new Desk();
        for (int page = 0; page < 16; page++) {
            full.put("p" + page, "[[kind:k]]");
        }
        Due.is("within(15)", full.web.within(15), 1);
        Due.is("within(16)", full.web.within(16), -1);
    }

    /** Page 0 is in 8 KINDS of a digit; these have all of the NAMES as KINDS above. */
    private static Desk manyKinds(List<String> names) {
        Desk desk = new Desk();
        StringBuilder first = new StringBuilder();
        for (int k = 0; k < 8; k++) {
            first.append("[[kind:").append(k).append("]]");
        }
        desk.put("p", first.toString());
        for (int k = 0; k < 8; k++) {
            StringBuilder text = new StringBuilder();
            for (int i = k * 11; i < k * 11 + 11 && i < names.size(); i++) {
                text.append("[[kind:").append(names.get(i)).append("]]");
            }
            desk.put("kind:" + k, text.toString());
        }
        return desk;
    }

    private static void kindsMost() {
        Due.by("Promise 22: -2 as for wanted()");
        // With the 10s, 8 of 7 bytes, 86 of 22 and 2 of 15 are 1978: one of 22 just fits.
        List<String> names = longNames(86, 9);
        names.add("zbcdefghi");
        Desk desk = manyKinds(names);
        Due.is("8 of 7, 86 of 22, 2 of 15", desk.web.within(0), 96);
        Due.is("count(3)", desk.web.count(3), 1978);
        desk.put("kind:zbcdefghi", "[[kind:" + SIXTEEN + "]]");
        Due.is("2000 bytes", desk.web.within(0), 97);
        Due.is("count(3)", desk.web.count(3), 2000);
        Due.is("the last two", desk.web.out(1998) + " " + desk.web.out(1999), (int) 'p' + " 10");
        desk.put("kind:abcdefghi", "[[kind:" + SIXTEEN + "]][[kind:0]][[kind:zbcdefghi]]");
        Due.is("2000 still, as none comes twice", desk.web.within(0), 97);
        names.set(87, "zbcdefghij");
        Desk more = manyKinds(names);
        more.put("kind:zbcdefghij", "[[kind:" + SIXTEEN + "]]");
        more.web.named(0);
        Due.is("2001 bytes", more.web.within(0), -2);
        Due.is("OUT stays", more.out(), "p");
        more.web.as(9);
        Due.is("as it was", more.web.within(0), 96);
        more.web.as(-1);
        more.gone("kind:zbcdefghij");
        Due.is("and without the last step", more.web.within(0), 96);
    }

    private static void memberPages() {
        Due.by("Promise 23: FOUND are the pages, in order, that have the KIND at hand above them (what 1), or in one step (0): how many");
        Desk desk = new Desk();
        desk.put("a", "[[kind:k]]");
        desk.put("b", "[[kind:m]]");
        desk.put("kind:m", "[[ KIND:_k |x]]");
        desk.put("c", "[[k]]{{kind:k}}");
        desk.put("d", "[[kind:n]]");
        desk.put("kind:n", "[[kind:m]]");
        desk.name("kind:k");
        Due.is("in one step, no page of it", members(desk, 0), "2 [0, 2]");
        Due.is("in any", members(desk, 1), "5 [0, 1, 2, 4, 5]");
        desk.put("kind:k", "[[kind:k]]");
        Due.is("itself, in one step", members(desk, 0), "3 [0, 2, 6]");
        desk.put("kind:k", "[[kind:n]]");
        Due.is("not itself in one step", members(desk, 0), "2 [0, 2]");
        Due.is("itself in a ring", members(desk, 1), "6 [0, 1, 2, 4, 5, 6]");
        desk.gone("kind:m");
        desk.name("kind:k");
        Due.is("none by what is GONE", members(desk, 1), "1 [0]");
        desk.name("kind:z");
        Due.is("of none", members(desk, 0) + " " + members(desk, 1), "0 [] 0 []");
        desk.name("kind:k");
        String[] at = {"0 []", "1 [0]", "1 [0]", "3 [0, 1, 2]", "3 [0, 1, 2]", "3 [0, 1, 2]", "5 [0, 1, 2, 4, 5]"};
        for (int t = 0; t <= 6; t++) {
            desk.web.as(t);
            Due.is("at TIME " + t, members(desk, 1), at[t]);
        }
    }

    private static void memberNone() {
        Due.by("Promise 23: NONE: no KIND at hand, or for others.");
        Desk desk = new Desk();
        desk.put("a", "[[kind:k]][[k]]");
        desk.name("k");
        desk.web.from(false);
        Due.is("a NAME that is no KIND", desk.web.members(0) + " " + desk.web.members(1), "-1 -1");
        desk.name("kind k");
        Due.is("a NAME that is no KIND", desk.web.members(0) + " " + desk.web.members(1), "-1 -1");
        desk.name("kind:k");
        for (int what : new int[] {LOW, -2, -1, 2, 3, HIGH}) {
            Due.is("members(" + what + ")", desk.web.members(what), -1);
        }
        Due.is("FOUND is as it was", desk.found(), List.of(0));
        Due.is("members(0)", members(desk, 0), "1 [0]");
        Due.is("members(1)", members(desk, 1), "1 [0]");
        Due.is("no NAME leaves it at hand", desk.name("kind:") + " " + members(desk, 1), "-1 1 [0]");
    }

    private static void memberMost() {
        Due.by("Promise 23: the pages, in order, that have the KIND at hand above them");
        Desk up = new Desk();
        Desk down = new Desk();
        for (int page = 0; page < 16; page++) {
            up.put("kind:" + page, "[[kind:" + (page + 1) + "]]");
            down.put("kind:" + (16 - page), "[[kind:" + (17 - page) + "]]");
        }
        up.name("kind:16");
        Due.is("16 steps", up.web.members(1), 16);
        Due.is("the last", up.web.found(15) + " " + up.web.found(16), "15 -1");
        Due.is("one step", members(up, 0), "1 [15]");
        up.name("kind:1");
        Due.is("the first", members(up, 1), "1 [0]");
        up.name("kind:0");
        Due.is("none below the first", members(up, 1), "0 []");
        down.name("kind:17");
        Due.is("16 steps, the other way", down.web.members(1), 16);
        Due.is("one step", members(down, 0), "1 [0]");
    }

    private static void nothingElse() {
        Due.by("Promise 19 to 23: FOUND are .., OUT are ..");
        Desk desk = new Desk();
        desk.put("a", "[[b]][[kind:k]]{{kind:k}}");
        desk.name("kind:k");
        desk.web.text(0);
        String out = desk.out();
        desk.web.from(true);
        desk.web.touch();
        desk.web.members(1);
        Due.is("what FINDS leaves OUT", desk.out(), out);
        desk.web.wanted();
        desk.web.within(0);
        Due.is("what tells NAMES leaves FOUND", desk.found(), List.of(0));
        Due.is("and the NAME at hand", desk.web.members(0), 1);
    }

    public static void main(String[] args) {
        noName();
        linksTo();
        linksThrough();
        linksMost();
        wants();
        wantsOrder();
        wantsMost();
        wantsWithoutPages();
        touches();
        touchesOnward();
        touchesMost();
        kindsOf();
        kindsFewestSteps();
        kindsNone();
        kindsMost();
        memberPages();
        memberNone();
        memberMost();
        nothingElse();
        Due.exit();
    }
}
