/** The bounds that the document tells under "Terms" I: what is a NAME, a TEXT, a LINK, a SHOWING, and what just isn't. */
public final class NameTextBounds {
    private static final String SIXTEEN = "abcdefghijklmnop";
    private static final String SIXTEEN_BLANK = "abcdefg hijklmno";

    /** The NAME that comes of these bytes. */
    private static String folded(String s) {
        Desk desk = new Desk();
        if (desk.name(s) == PageWeb.NONE) {
            return "none";
        }
        desk.write("");
        return desk.named(0);
    }

    private static void fold(String s, String want) {
        Due.is("the NAME of \"" + s + "\"", folded(s), want);
    }

    private static void noName(String... all) {
        for (String s : all) {
            fold(s, "none");
        }
    }

    private static void letters() {
        Due.by("letters A .. Z as a .. z .. then 1 to 16 of a .. z, 0 .. 9 and blanks .. Others are no NAMES.");
        for (char c = 0; c < 256; c++) {
            boolean upper = c >= 'A' && c <= 'Z';
            boolean good = upper || c >= 'a' && c <= 'z' || c >= '0' && c <= '9';
            String low = "" + (upper ? (char) (c + 32) : c);
            boolean blank = c == ' ' || c == '_';
            fold("" + c, good ? low : "none");
            fold("x" + c + "y", blank ? "x y" : good ? "x" + low + "y" : "none");
            fold("kind:x" + c, blank ? "kind:x" : good ? "kind:x" + low : "none");
        }
    }

    private static void blanks() {
        Due.by("_ as a blank, blanks side by side as one, blanks at both ends left out");
        fold("a_b", "a b");
        fold("a b", "a b");
        fold("a  b", "a b");
        fold("a__b", "a b");
        fold("a_ b", "a b");
        fold(" _ a _ _ b c_ _", "a b c");
        fold("_a", "a");
        fold("a_", "a");
        fold(" a", "a");
        fold("a ", "a");
        Due.is("the same NAME", namesApart("a b", "_A__B_"), 0);
        Due.is("another NAME", namesApart("a b", "ab"), -2);
    }

    /** What name() answers for the second one if the first one has page 0. */
    private static int namesApart(String one, String other) {
        Desk desk = new Desk();
        desk.put(one, "");
        return desk.name(other);
    }

    private static void nameLengths() {
        Due.by("then 1 to 16 of a .. z, 0 .. 9 and blanks");
        noName("", " ", "_", "  ", "_ _", " ".repeat(400));
        fold("a", "a");
        fold("0", "0");
        fold(SIXTEEN, SIXTEEN);
        fold("0123456789012345", "0123456789012345");
        fold(SIXTEEN_BLANK, SIXTEEN_BLANK);
        fold("a b c d e f g hi", "a b c d e f g hi");
        fold("abcdefg _ _ hijklmno", SIXTEEN_BLANK);
        fold(" ".repeat(192) + SIXTEEN + "_".repeat(192), SIXTEEN);
        fold(" ".repeat(399) + "z", "z");
        fold("z" + "_".repeat(399), "z");
        noName(SIXTEEN + "q", SIXTEEN_BLANK + "p", "a b c d e f g h i", " ".repeat(191) + SIXTEEN + "q" + "_".repeat(192));
        for (int n = 17; n <= 30; n++) {
            noName("a".repeat(n));
        }
        noName("a".repeat(400), SIXTEEN + " ".repeat(383) + "q", "a_".repeat(9));
        Due.is("16 alike are the same NAME", namesApart(SIXTEEN, SIXTEEN), 0);
        Due.is("the 16th counts", namesApart(SIXTEEN, "abcdefghijklmnoq"), -2);
        Due.is("what is shorter is another", namesApart(SIXTEEN, "abcdefghijklmno"), -2);
        Due.is("the 8th counts", namesApart("abcdefgh", "abcdefg"), -2);
        Due.is("the 9th counts", namesApart("abcdefgh", "abcdefghi"), -2);
    }

    private static void kinds() {
        Due.by("or kind: with such a one behind it (blanks at once behind the : left out): a KIND");
        fold("kind:a", "kind:a");
        fold("KIND:A", "kind:a");
        fold("kind: a", "kind:a");
        fold("kind:_ _a", "kind:a");
        fold(" _kind:a_ ", "kind:a");
        fold("kind:" + SIXTEEN, "kind:" + SIXTEEN);
        fold("kind:" + SIXTEEN_BLANK, "kind:" + SIXTEEN_BLANK);
        fold("kind: " + SIXTEEN, "kind:" + SIXTEEN);
        fold("__kind:" + "_".repeat(300) + SIXTEEN + "__", "kind:" + SIXTEEN);
        noName("kind:", "kind: ", "kind:__", "kind:" + " ".repeat(395));
        for (int n = 17; n <= 30; n++) {
            noName("kind:" + "a".repeat(n), "kind: " + "a".repeat(n));
        }
        noName("mind:a", "kund:a", "kild:a", "kins:a", "kind;a", "kind?a", "kind/a");
        noName("kind:" + SIXTEEN_BLANK + "p", "kind :a", "kind_:a", "kind::a", "kind: :a", "kind:a:", "kind:a:b",
            "kind:kind:a", "kin:a", "ind:a", "k ind:a", "kindx:a", "xkind:a", ":a", "a:", "kinds:a");
    }

    private static void kindsAndOthers() {
        Due.by("kind: with such a one behind it .. : a KIND");
        Desk desk = new Desk();
        for (String s : new String[] {"kind", "kind a", "kinda", "a"}) {
            desk.name(s);
            Due.is("\"" + s + "\" at hand is no KIND, members(0)", desk.web.members(0), -1);
        }
        for (String s : new String[] {"kind:a", "Kind:_a", "kind:kind"}) {
            desk.name(s);
            Due.is("\"" + s + "\" at hand is a KIND, members(0)", desk.web.members(0), 0);
        }
        Due.is("a KIND and another of the same bytes behind", namesApart("a", "kind:a"), -2);
        Due.is("a KIND and another of the same bytes behind", namesApart("kind:a", "a"), -2);
    }

    private static int written(String s) {
        Desk desk = new Desk();
        desk.name("p");
        return desk.write(s);
    }

    private static void textLengths() {
        Due.by("A TEXT has up to 300 bytes");
        for (int n : new int[] {0, 1, 19, 20, 21, 299, 300}) {
            Due.is(n + " bytes", written("x".repeat(n)), 1);
        }
        for (int n : new int[] {301, 302, 320, 399, 400}) {
            Due.is(n + " bytes", written("x".repeat(n)), -2);
        }
        Desk desk = new Desk();
        desk.put("p", "a" + "x".repeat(298) + "z");
        Due.is("text", desk.web.text(0), 300);
        Due.is("the first", desk.web.out(0), (int) 'a');
        Due.is("the last", desk.web.out(299), (int) 'z');
        Due.is("one beyond", desk.web.out(300), -1);
    }

    private static void textBytes() {
        Due.by("A TEXT has .. bytes, of 10 and 32 .. 126");
        for (char c = 0; c < 256; c++) {
            int want = c == 10 || c >= 32 && c <= 126 ? 1 : -2;
            Due.is("byte " + (int) c + " alone", written("" + c), want);
            Due.is("byte " + (int) c + " ahead", written(c + "abc"), want);
            Due.is("byte " + (int) c + " within", written("ab" + c + "c"), want);
            Due.is("byte " + (int) c + " behind", written("x".repeat(299) + c), want);
        }
    }

    /** How many LINKS, SHOWINGS and plain bytes a TEXT has. */
    private static void parts(String text, int links, int showings, int plain) {
        Desk desk = new Desk();
        desk.put("p", text);
        String got = desk.web.read(0, 0) + " " + desk.web.read(0, 1) + " " + desk.web.read(0, 2);
        Due.is("\"" + text + "\"", got, links + " " + showings + " " + plain);
    }

    private static void plain(String... texts) {
        for (String s : texts) {
            parts(s, 0, 0, s.length());
        }
    }

    private static void insides() {
        Due.by("[[ , then bytes but [ ] { } and 10, then ]] is a LINK .. {{ , likewise, }} a SHOWING");
        for (char c = 32; c <= 127; c++) {
            char b = c == 127 ? '\n' : c;
            boolean ends = "[]{}\n".indexOf(b) >= 0;
            String link = "[[a|x" + b + "y]]";
            String showing = "{{a|x" + b + "y}}";
            parts(link, ends ? 0 : 1, 0, ends ? link.length() : 0);
            parts(showing, 0, ends ? 0 : 1, ends ? showing.length() : 0);
        }
        plain("[[a]", "[a]]", "[a]", "[[a", "[[", "[", "a]]", "[[a] ]", "[ [a]]", "[[a}}", "[[a]}", "[[a}]", "[{a}]", "[[a\n]]");
        plain("{{a}", "{a}}", "{a}", "{{a", "{{", "{", "a}}", "{{a} }", "{ {a}}", "{{a]]", "{{a}]", "{{a]}", "{[a]}", "{{a\n}}");
        parts("[[a]]", 1, 0, 0);
        parts("{{a}}", 0, 1, 0);
        parts("\n[[a]]\n{{a}}\n", 1, 1, 3);
    }

    private static void atBothEnds() {
        Due.by("It is read from its beginning on");
        parts("", 0, 0, 0);
        parts("x".repeat(295) + "[[a]]", 1, 0, 295);
        parts("x".repeat(295) + "{{a}}", 0, 1, 295);
        plain("x".repeat(296) + "[[a]", "x".repeat(297) + "[[a", "x".repeat(298) + "[[", "x".repeat(299) + "[");
        plain("x".repeat(296) + "{{a}", "x".repeat(297) + "{{a", "x".repeat(298) + "{{", "x".repeat(299) + "{");
        parts("[[a]]" + "x".repeat(295), 1, 0, 295);
        parts("[[a|" + "x".repeat(294) + "]]", 1, 0, 0);
        parts("{{a|" + "x".repeat(294) + "}}", 0, 1, 0);
        parts("[[a]]".repeat(60), 60, 0, 0);
        parts("{{a}}".repeat(60), 0, 60, 0);
        parts("[[a]]{{a}}".repeat(30), 30, 30, 0);
        plain("[".repeat(300), "{".repeat(300), "]".repeat(300), "[[a|".repeat(75));
    }

    private static void insideNames() {
        Due.by("is a LINK, if what is inside up to the first | (or all) is a NAME; {{ , likewise, }} a SHOWING, if so");
        String[] names = {"a", " a ", "A_b", SIXTEEN, "kind:a", "kind:" + SIXTEEN, "Kind: _x", "_".repeat(100) + "a" + " ".repeat(100)};
        for (String s : names) {
            parts("[[" + s + "]]", 1, 0, 0);
            parts("[[" + s + "|]]", 1, 0, 0);
            parts("[[" + s + "|!|?]]", 1, 0, 0);
            parts("{{" + s + "}}", 0, 1, 0);
            parts("{{" + s + "|}}", 0, 1, 0);
            parts("{{" + s + "|!|?}}", 0, 1, 0);
        }
        String[] others = {"", " ", "_", "!", "a!", "a:b", SIXTEEN + "q", "kind:", "kind: ", "kind:" + SIXTEEN + "q", "kind :a", "a.b"};
        for (String s : others) {
            plain("[[" + s + "]]", "[[" + s + "|]]", "[[" + s + "|a]]", "{{" + s + "}}", "{{" + s + "|}}", "{{" + s + "|a}}");
        }
    }

    private static void wordsMost() {
        Due.by("its WORDS being what stands behind the first |, up to the next | or the end, and so on (9 at most: with more it is none)");
        for (int n = 0; n <= 9; n++) {
            parts("{{a" + "|w".repeat(n) + "}}", 0, 1, 0);
            parts("{{a" + "|".repeat(n) + "}}", 0, 1, 0);
        }
        for (int n : new int[] {10, 11, 20, 100, 290}) {
            plain("{{a" + "|".repeat(n) + "}}");
            parts("[[a" + "|".repeat(n) + "]]", 1, 0, 0);
        }
        plain("{{a" + "|w".repeat(10) + "}}");
        parts("{{a" + "|w".repeat(10) + "}}{{a" + "|w".repeat(9) + "}}", 0, 1, 25);
    }

    private static void wordsCut() {
        Due.by("its WORDS being what stands behind the first |, up to the next | or the end, and so on");
        shown("<$1$2>", "{{m}}", "<$1$2>");
        shown("<$1$2>", "{{m|}}", "<$2>");
        shown("<$1$2>", "{{m||}}", "<>");
        shown("<$1,$2>", "{{m| a b |c}}", "< a b ,c>");
        shown("<$1,$2,$3>", "{{m||c|}}", "<,c,>");
        shown("$1$2$3$4$5$6$7$8$9", "{{m|a|b|c|d|e|f|g|h|i}}", "abcdefghi");
        shown("$9$8$1", "{{m|a|b|c|d|e|f|g|h|i}}", "iha");
        shown("$9$8$1", "{{m|a|b|c|d|e|f|g|h}}", "$9ha");
    }

    /** What a page shows beside a page m with that TEXT. */
    private static void shown(String m, String text, String want) {
        Desk desk = new Desk();
        desk.put("p", text);
        desk.put("m", m);
        Due.is("show of \"" + text + "\" with m as \"" + m + "\"", desk.show(0), want);
    }

    private static void readsOn() {
        Due.by("all other bytes are plain (and reading goes on behind the first of them)");
        parts("[[[a]]", 1, 0, 1);
        parts("[[[[a]]]]", 1, 0, 4);
        parts("{{{a}}", 0, 1, 1);
        parts("{{{{a}}}}", 0, 1, 4);
        parts("[[a]]]", 1, 0, 1);
        parts("{{a}}}", 0, 1, 1);
        parts("[[a[[b]]", 1, 0, 3);
        parts("{{a{{b}}", 0, 1, 3);
        parts("[[a{{b}}]]", 0, 1, 5);
        parts("{{a[[b]]}}", 1, 0, 5);
        parts("[[!|{{a}}]]", 0, 1, 6);
        parts("{{a|[[b]]|{{c}}}}", 1, 1, 7);
        parts("[[a\n[[b]]", 1, 0, 4);
        parts("[[a][[b]]", 1, 0, 4);
        parts("[[a]]]]", 1, 0, 2);
        parts("[[a]][b]]", 1, 0, 4);
        parts("{[[a]]}", 1, 0, 2);
        parts("[[!]][[a]]", 1, 0, 5);
        parts("{{!}}{{a}}", 0, 1, 5);
        shown("", "[[[a]]", "[a");
        shown("x", "{{{m}}}", "{x}");
    }

    private static void linksShow() {
        Due.by("A LINK to a KIND puts the page into it, and shows nothing; another one shows what is behind its first |, or its name as written.");
        shown("", "<[[kind:k]]>", "<>");
        shown("", "<[[kind:k|word]]>", "<>");
        shown("", "<[[ KIND:_k |a|b]]>", "<>");
        shown("", "<[[a]]>", "<a>");
        shown("", "<[[ A__b ]]>", "< A__b >");
        shown("", "<[[a|]]>", "<>");
        shown("", "<[[a|w]]>", "<w>");
        shown("", "<[[a| W_w ]]>", "< W_w >");
        shown("", "<[[a|b|c]]>", "<b|c>");
        shown("", "<[[a||]]>", "<|>");
        shown("", "<[[kind]]>", "<kind>");
        Desk desk = new Desk();
        desk.put("p", "[[kind:k|w]][[m]]{{kind:n}}[[kind:]]");
        Due.is("within", desk.web.within(0), 1);
        Due.is("its KIND", desk.out(), "kind:k\n");
    }

    private static void moved() {
        Due.by("A page whose TEXT is #to , a blank, and a LINK to no KIND, nothing else, is MOVED to that one's NAME.");
        String[] good = {"#to [[P]]", "#to [[p|]]", "#to [[p|x|y]]", "#to [[ _p ]]", "#to [[p|" + "x".repeat(290) + "]]"};
        for (String s : good) {
            movedTo(s, 0);
        }
        movedTo("#to [[q]]", -2);
        movedTo("#to [[" + SIXTEEN + "]]", -2);
        String[] none = {"", "#to", "#to ", "#to p", "[[p]]", "#to[[p]]", "#to  [[p]]", "#to\n[[p]]", "#to_[[p]]", " #to [[p]]",
            "\n#to [[p]]", "#to [[p]] ", "#to [[p]]\n", "#to [[p]]x", "#to [[p]]]", "#to [[[p]]", "#to [[p]", "#to [p]]", "#to [[]]",
            "#to [[!]]", "#to [[" + SIXTEEN + "q]]", "#to [[kind:p]]", "#to {{p}}", "#to [[p]][[p]]", "#to [[p]]{{p}}", "#to {{p}}[[p]]",
            "#TO [[p]]", "#To [[p]]", "to [[p]]", "##to [[p]]", "#t [[p]]", "#too [[p]]", "xto [[p]]", "#to x[[p]]"};
        for (String s : none) {
            movedTo(s, -1);
        }
    }

    private static void movedTo(String text, int want) {
        Desk desk = new Desk();
        desk.put("p", text);
        Due.is("read(0, 3) of \"" + text + "\"", desk.web.read(0, 3), want);
        Due.is("onward from p, \"" + text + "\"", desk.web.onward(), want == 0 ? -3 : want == -2 ? -2 : 0);
    }

    public static void main(String[] args) {
        letters();
        blanks();
        nameLengths();
        kinds();
        kindsAndOthers();
        textLengths();
        textBytes();
        insides();
        atBothEnds();
        insideNames();
        wordsMost();
        wordsCut();
        readsOn();
        linksShow();
        moved();
        Due.exit();
    }
}
