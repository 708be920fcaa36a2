import java.util.ArrayList;
import java.util.Arrays;
import java.util.LinkedHashSet;
import java.util.List;
import java.util.Map;
import java.util.Random;
import java.util.Set;
import java.util.TreeMap;
import java.util.TreeSet;
import java.util.regex.Matcher;
import java.util.regex.Pattern;

/** Seeded runs of calls on PageWeb and on a plain second telling of the document, side by side. */
public final class ModelRuns {
    private static final int RUNS = 1500;
    private static int wrong = 0;
    private static final Map<String, Integer> seen = new TreeMap<>();

    /** The document told with texts, maps and regular expressions; nothing is kept but whole webs. */
    static final class Model {
        List<TreeMap<Integer, String>> webs = new ArrayList<>(List.of(new TreeMap<>()));
        List<String> names = new ArrayList<>();
        List<int[]> changes = new ArrayList<>();
        String tape = "";
        String out = "";
        List<Integer> found = new ArrayList<>();
        String held = null;
        int asked = -1;

        static String fold(String s) {
            StringBuilder lower = new StringBuilder();
            for (char c : s.toCharArray()) {
                lower.append(c >= 'A' && c <= 'Z' ? (char) (c + 32) : c);
            }
            String t = lower.toString().replaceAll("[_ ]+", " ").replaceAll("^ | $", "");
            if (t.matches("[a-z0-9 ]{1,16}")) {
                return t;
            }
            if (t.startsWith("kind:")) {
                String rest = t.substring(5).replaceAll("^ ", "");
                return rest.matches("[a-z0-9 ]{1,16}") ? "kind:" + rest : null;
            }
            return null;
        }

        record Token(char sort, String whole, String inside, String name) {
            String shows() {
                if (name.startsWith("kind:")) {
                    return "";
                }
                int bar = inside.indexOf('|');
                return bar < 0 ? inside : inside.substring(bar + 1);
            }

            List<String> words() {
                String[] split = inside.split("\\|", -1);
                return Arrays.asList(split).subList(1, split.length);
            }
        }

        static final Pattern MARK = Pattern.compile("\\[\\[([^\\[\\]{}\n]*)\\]\\]|\\{\\{([^\\[\\]{}\n]*)\\}\\}");

        static List<Token> tokens(String text) {
            List<Token> all = new ArrayList<>();
            StringBuilder plain = new StringBuilder();
            int i = 0;
            while (i < text.length()) {
                Matcher m = MARK.matcher(text).region(i, text.length());
                Token token = null;
                if (m.lookingAt()) {
                    boolean link = m.group(1) != null;
                    String inside = link ? m.group(1) : m.group(2);
                    String name = fold(inside.split("\\|", -1)[0]);
                    if (name != null && (link || inside.split("\\|", -1).length <= 10)) {
                        token = new Token(link ? 'L' : 'S', m.group(), inside, name);
                    }
                }
                if (token == null) {
                    plain.append(text.charAt(i++));
                    continue;
                }
                if (plain.length() > 0) {
                    all.add(new Token('P', plain.toString(), plain.toString(), ""));
                    plain.setLength(0);
                }
                all.add(token);
                i += token.whole().length();
            }
            if (plain.length() > 0) {
                all.add(new Token('P', plain.toString(), plain.toString(), ""));
            }
            return all;
        }

        static String movedTo(String text) {
            if (text == null || !text.startsWith("#to ")) {
                return null;
            }
            List<Token> rest = tokens(text.substring(4));
            return rest.size() == 1 && rest.get(0).sort() == 'L' && !rest.get(0).name().startsWith("kind:")
                ? rest.get(0).name() : null;
        }

        TreeMap<Integer, String> latest() {
            return webs.get(webs.size() - 1);
        }

        TreeMap<Integer, String> web() {
            return asked < 0 ? latest() : webs.get(asked);
        }

        int pageIn(TreeMap<Integer, String> web, String name) {
            int page = names.indexOf(name);
            return page >= 0 && web.containsKey(page) ? page : -2;
        }

        String textIn(TreeMap<Integer, String> web, String name) {
            return web.get(pageIn(web, name));
        }

        /** All NAMES come to from one on, the last repeated in front of a "ring". */
        Set<String> way(String name) {
            Set<String> way = new LinkedHashSet<>();
            String at = name;
            while (at != null && way.add(at)) {
                at = movedTo(textIn(web(), at));
            }
            if (at != null) {
                way.add("(ring)");
            }
            return way;
        }

        int onwardFrom(String name) {
            List<String> way = new ArrayList<>(way(name));
            String end = way.get(way.size() - 1);
            return end.equals("(ring)") ? -3 : pageIn(web(), end);
        }

        int feed(int... numbers) {
            if (tape.length() + 20 > 400) {
                return -1;
            }
            for (int n : numbers) {
                for (int shift = 24; shift >= 0; shift -= 8) {
                    tape += (char) (n >> shift & 255);
                }
            }
            return tape.length();
        }

        boolean end(int n) {
            if (n < 0 || n > tape.length()) {
                return false;
            }
            tape = tape.substring(0, n);
            return true;
        }

        int take() {
            tape = out.substring(0, Math.min(400, out.length()));
            return tape.length();
        }

        String drain() {
            String all = tape;
            tape = "";
            return all;
        }

        int name() {
            String name = fold(drain());
            if (name == null) {
                return -1;
            }
            held = name;
            return pageIn(web(), name);
        }

        int put(String name, int hand, String text) {
            if (!names.contains(name)) {
                names.add(name);
            }
            int page = names.indexOf(name);
            TreeMap<Integer, String> next = new TreeMap<>(latest());
            if (text == null) {
                next.remove(page);
            } else {
                next.put(page, text);
            }
            webs.add(next);
            changes.add(new int[] {page, hand});
            return changes.size();
        }

        boolean tooMany() {
            return changes.size() > 120 || names.size() > 16;
        }

        int write(int hand) {
            String text = drain();
            if (held == null || hand < 0 || hand > 9) {
                return -1;
            }
            if (text.length() > 300 || !text.matches("[\n -~]*")) {
                return -2;
            }
            return kept(copy(), put(held, hand, text));
        }

        int gone(int hand) {
            if (held == null || hand < 0 || hand > 9 || pageIn(latest(), held) < 0) {
                return -1;
            }
            return kept(copy(), put(held, hand, null));
        }

        Model copy() {
            Model copy = new Model();
            copy.webs = new ArrayList<>(webs);
            copy.names = new ArrayList<>(names);
            copy.changes = new ArrayList<>(changes);
            return copy;
        }

        /** before: a copy made ahead of what is undone if it is too much (the arguments' order matters). */
        int kept(Model before, int answer) {
            if (!tooMany()) {
                return answer;
            }
            webs = before.webs;
            names = before.names;
            changes = before.changes;
            return -3;
        }

        int move(int hand, boolean links) {
            String goal = fold(drain());
            if (held == null || hand < 0 || hand > 9 || pageIn(latest(), held) < 0) {
                return -1;
            }
            if (goal == null || goal.equals(held) || pageIn(latest(), goal) >= 0
                || goal.startsWith("kind:") || held.startsWith("kind:")) {
                return -2;
            }
            Model before = copy();
            put(goal, hand, textIn(latest(), held));
            put(held, hand, "#to [[" + goal + "]]");
            for (int page = 0; page < names.size(); page++) {
                if (held.equals(movedTo(latest().get(page)))) {
                    put(names.get(page), hand, "#to [[" + goal + "]]");
                }
            }
            boolean tooLong = false;
            for (int page = 0; links && page < names.size(); page++) {
                String text = latest().get(page);
                StringBuilder turned = new StringBuilder();
                boolean has = false;
                for (Token t : text == null ? List.<Token>of() : tokens(text)) {
                    if (t.sort() == 'L' && t.name().equals(held)) {
                        has = true;
                        turned.append("[[" + goal + t.inside().replaceFirst("^[^|]*", "") + "]]");
                    } else {
                        turned.append(t.whole());
                    }
                }
                if (has) {
                    put(names.get(page), hand, turned.toString());
                    tooLong |= turned.length() > 300;
                }
            }
            int done = changes.size() - before.changes.size();
            if (tooLong) {
                webs = before.webs;
                names = before.names;
                changes = before.changes;
                return -2;
            }
            return kept(before, done);
        }

        boolean as(int time) {
            if (time < -1 || time > changes.size()) {
                return false;
            }
            asked = time;
            return true;
        }

        int count(int what) {
            int[] all = {changes.size(), web().size(), found.size(), out.length(), tape.length()};
            return what < 0 || what > 4 ? -1 : all[what];
        }

        int say(String s) {
            out = s;
            return s.length();
        }

        int read(int page, int what) {
            String text = web().get(page);
            if (text == null) {
                return -1;
            }
            int links = 0;
            int showings = 0;
            int plain = 0;
            for (Token t : tokens(text)) {
                links += t.sort() == 'L' ? 1 : 0;
                showings += t.sort() == 'S' ? 1 : 0;
                plain += t.sort() == 'P' ? t.whole().length() : 0;
            }
            String moved = movedTo(text);
            int to = moved == null ? -1 : pageIn(web(), moved);
            return what == 0 ? links : what == 1 ? showings : what == 2 ? plain : what == 3 ? to : -1;
        }

        static final class Spent extends RuntimeException {
            private static final long serialVersionUID = 1L;
        }

        int showings;

        static String guarded(String s) {
            if (s.length() > 2000) {
                throw new Spent();
            }
            return s;
        }

        static String fill(String s, List<String> words) {
            Matcher m = Pattern.compile("\\$([1-9])").matcher(s);
            return m.replaceAll(r -> Matcher.quoteReplacement(
                Integer.parseInt(r.group(1)) <= words.size() ? words.get(Integer.parseInt(r.group(1)) - 1) : r.group()));
        }

        String made(int page, List<String> words, List<Integer> making) {
            List<Integer> inner = new ArrayList<>(making);
            inner.add(page);
            String all = "";
            for (Token t : tokens(web().get(page))) {
                if (t.sort() != 'S') {
                    all = guarded(all + fill(t.sort() == 'L' ? t.shows() : t.whole(), words));
                    continue;
                }
                if (++showings > 400) {
                    throw new Spent();
                }
                int to = onwardFrom(t.name());
                if (to < 0) {
                    all += "?" + t.name() + "?";
                } else if (inner.contains(to)) {
                    all += "!" + names.get(to) + "!";
                } else if (inner.size() == 8) {
                    all += "^";
                } else {
                    List<String> given = new ArrayList<>();
                    for (String word : t.words()) {
                        given.add(guarded(fill(word, words)));
                    }
                    all += made(to, given, inner);
                }
                guarded(all);
            }
            return all;
        }

        int show(int page) {
            if (!web().containsKey(page)) {
                return -1;
            }
            showings = 0;
            try {
                return say(made(page, List.of(), List.of()));
            } catch (Spent spent) {
                return -2;
            }
        }

        int find(List<Integer> pages) {
            found = pages;
            return pages.size();
        }

        int from(boolean through) {
            if (held == null) {
                return -1;
            }
            List<Integer> pages = new ArrayList<>();
            for (int page : web().keySet()) {
                if (tokens(web().get(page)).stream().anyMatch(t -> t.sort() == 'L'
                    && (t.name().equals(held) || through && way(t.name()).contains(held)))) {
                    pages.add(page);
                }
            }
            return find(pages);
        }

        int list(List<String> lines) {
            StringBuilder all = new StringBuilder();
            for (String line : lines) {
                all.append(line).append('\n');
            }
            if (all.length() > 2000) {
                return -2;
            }
            out = all.toString();
            return lines.size();
        }

        int wanted() {
            TreeSet<String> all = new TreeSet<>();
            for (String text : web().values()) {
                for (Token t : tokens(text)) {
                    if (t.sort() == 'L' && !t.name().startsWith("kind:") && pageIn(web(), t.name()) < 0) {
                        all.add(t.name());
                    }
                }
            }
            return list(new ArrayList<>(all));
        }

        int touch() {
            if (held == null) {
                return -1;
            }
            TreeSet<Integer> pages = new TreeSet<>();
            if (pageIn(web(), held) >= 0) {
                pages.add(pageIn(web(), held));
            }
            for (int before = -1; before < pages.size();) {
                before = pages.size();
                Set<String> goals = new TreeSet<>(Set.of(held));
                pages.forEach(p -> goals.add(names.get(p)));
                for (int page : web().keySet()) {
                    if (tokens(web().get(page)).stream().anyMatch(t -> t.sort() == 'S'
                        && way(t.name()).stream().anyMatch(goals::contains))) {
                        pages.add(page);
                    }
                }
            }
            return find(new ArrayList<>(pages));
        }

        Set<String> kindsOf(String text) {
            Set<String> kinds = new TreeSet<>();
            for (Token t : text == null ? List.<Token>of() : tokens(text)) {
                if (t.sort() == 'L' && t.name().startsWith("kind:")) {
                    kinds.add(t.name());
                }
            }
            return kinds;
        }

        List<String> above(int page) {
            List<String> all = new ArrayList<>();
            Set<String> level = kindsOf(web().get(page));
            while (!level.isEmpty()) {
                all.addAll(level);
                Set<String> next = new TreeSet<>();
                level.forEach(kind -> next.addAll(kindsOf(textIn(web(), kind))));
                next.removeAll(all);
                level = next;
            }
            return all;
        }

        int within(int page) {
            return web().containsKey(page) ? list(above(page)) : -1;
        }

        int members(int what) {
            if (held == null || !held.startsWith("kind:") || what < 0 || what > 1) {
                return -1;
            }
            List<Integer> pages = new ArrayList<>();
            for (int page : web().keySet()) {
                if (what == 1 ? above(page).contains(held) : kindsOf(web().get(page)).contains(held)) {
                    pages.add(page);
                }
            }
            return find(pages);
        }

        /** Where what CHANGE c replaced began, how many bytes that was, how many came. */
        int[] replaced(int c) {
            int page = changes.get(c - 1)[0];
            String was = webs.get(c - 1).getOrDefault(page, "");
            String is = webs.get(c).getOrDefault(page, "");
            int front = 0;
            while (front < was.length() && front < is.length() && was.charAt(front) == is.charAt(front)) {
                front++;
            }
            String a = new StringBuilder(was.substring(front)).reverse().toString();
            String b = new StringBuilder(is.substring(front)).reverse().toString();
            int back = 0;
            while (back < a.length() && back < b.length() && a.charAt(back) == b.charAt(back)) {
                back++;
            }
            return new int[] {front, a.length() - back, b.length() - back};
        }

        int blame(int page, int i) {
            if (!web().containsKey(page) || i < 0 || i >= web().get(page).length()) {
                return -1;
            }
            List<Integer> by = new ArrayList<>();
            int last = asked < 0 ? changes.size() : asked;
            for (int c = 1; c <= last; c++) {
                if (changes.get(c - 1)[0] == page) {
                    int[] r = replaced(c);
                    List<Integer> next = new ArrayList<>(by.subList(0, r[0]));
                    for (int k = 0; k < r[2]; k++) {
                        next.add(c);
                    }
                    next.addAll(by.subList(r[0] + r[1], by.size()));
                    by = next;
                }
            }
            return by.get(i);
        }

        int change(int c, int what) {
            if (c < 1 || c > changes.size() || what < 0 || what > 4) {
                return -1;
            }
            return what < 2 ? changes.get(c - 1)[what] : replaced(c)[what - 2];
        }

        int back(int c, int hand) {
            if (c < 1 || c > changes.size() || hand < 0 || hand > 9) {
                return -1;
            }
            int page = changes.get(c - 1)[0];
            for (int time = c - 1; time <= changes.size(); time++) {
                if (!webs.get(time).containsKey(page)) {
                    return -2;
                }
            }
            // left and right: the bytes at once beside the rest, which must stand, too.
            int[] r = replaced(c);
            String marked = "<" + webs.get(c).get(page) + ">";
            int left = r[0];
            int right = r[0] + r[2] + 1;
            for (int d = c + 1; d <= changes.size(); d++) {
                if (changes.get(d - 1)[0] != page) {
                    continue;
                }
                int[] q = replaced(d);
                int from = q[0] + 1;
                int to = q[0] + q[1] + 1;
                if (from <= right && to > left) {
                    return -2;
                }
                if (to <= left) {
                    left += q[2] - q[1];
                    right += q[2] - q[1];
                }
                marked = "<" + webs.get(d).get(page) + ">";
            }
            String old = webs.get(c - 1).get(page).substring(r[0], r[0] + r[1]);
            String text = marked.substring(1, left + 1) + old + marked.substring(right, marked.length() - 1);
            Model before = copy();
            int answer = put(names.get(page), hand, text);
            if (text.length() > 300) {
                webs = before.webs;
                names = before.names;
                changes = before.changes;
                return -3;
            }
            return kept(before, answer);
        }
    }

    private static final String[] NAMES = {"a", "b", "c d", "E", "kind:k", "kind:m", "f0", "kind:n x", "g", "h",
        "i", "j", "kind:k2", "l", "abcdefghijklmnop", "o", "p", "q"};
    private static final String[] PIECES = {"x", "yy", " ", "$1", "$2", "$9", "$", "1", "[[", "]]", "{{", "}}", "|",
        "\n", "[", "{", "z[[a", "b]]", "#to ", "words words ", "[[!]]", "{{a|1|2|3|4|5|6|7|8|9}}",
        "{{b|1|2|3|4|5|6|7|8|9|10}}", "{{a|}}", "[[a|]]", "[[b|x|y$1]]", "$$1", "$0", "$10"};

    private final Random random;
    private final PageWeb web = new PageWeb();
    private final Model model = new Model();
    private final StringBuilder told = new StringBuilder();
    private boolean failed = false;
    private final int nameCount;
    private final int changing;
    private final int longOnes;
    /** What fills this run's long TEXTS: 0 SHOWINGS, 1 LINKS, 2 LINKS to KINDS; beyond these it has none. */
    private final int filling;

    private ModelRuns(long seed) {
        // Random begins alike from seeds that lie side by side.
        random = new Random(seed * 0x9E3779B97F4A7C15L);
        nameCount = 3 + random.nextInt(NAMES.length - 2);
        changing = 2 + random.nextInt(5);
        longOnes = 1 + random.nextInt(12);
        filling = random.nextInt(8);
    }

    private boolean chance(int in) {
        return random.nextInt(in) == 0;
    }

    private void check(String call, int got, int due) {
        told.append(call).append(" -> ").append(got).append('\n');
        seen.merge(call.replaceAll("\\(.*", "") + (due < 0 ? " " + due : " ok"), 1, Integer::sum);
        if (got != due && !failed) {
            failed = true;
            wrong++;
            System.out.println("ModelRuns: " + told + "due is " + due);
        }
    }

    private String randomName() {
        String s = NAMES[random.nextInt(Math.min(nameCount, NAMES.length))];
        if (longOnes == 1 && chance(2)) {
            s = (chance(3) ? "kind:" : "") + Integer.toString(random.nextInt(2000), 36) + " and more";
        }
        if (filling == 2 && chance(2)) {
            s = "kind:" + (char) ('a' + random.nextInt(12));
        }
        if (chance(6)) {
            s = s.replace(' ', '_');
        }
        if (chance(8)) {
            s = s.toUpperCase();
        }
        if (chance(8)) {
            s = " _" + s + "  ";
        }
        if (chance(12)) {
            s = s.replace(":", ": _ ");
        }
        return chance(40) ? s + "!" : s;
    }

    private String randomPiece() {
        switch (random.nextInt(8)) {
            case 0:
                return "[[" + randomName() + "]]";
            case 1:
                return "[[" + randomName() + "|see $1]]";
            case 2:
                return "{{" + randomName() + "}}";
            case 3:
                return "{{" + randomName() + "|$1$1$1|w" + (chance(2) ? "|$2$1" : "") + "}}";
            case 4:
                return "{{" + randomName() + "|w" + PIECES[random.nextInt(8)] + "}}";
            default:
                return PIECES[random.nextInt(PIECES.length)];
        }
    }

    /** Alike pieces up to about as many bytes as a TEXT may have, so that what is made of it may be too much. */
    private String longText() {
        StringBuilder all = new StringBuilder();
        int most = chance(2) ? 285 + random.nextInt(20) : 300;
        while (all.length() < most) {
            String piece = "[[" + (filling == 2 ? "kind:" : "") + "long name " + Integer.toString(random.nextInt(30000), 36) + "]]";
            if (filling == 0) {
                piece = chance(3) ? "$1$2" : randomPiece();
            } else if (chance(6)) {
                piece = "[[" + randomName() + "]]";
            }
            if (all.length() + piece.length() > 300 && chance(2)) {
                break;
            }
            all.append(piece);
        }
        return all.toString();
    }

    private String randomText() {
        if (filling < 3 && chance(2)) {
            return longText();
        }
        if (chance(4)) {
            return "#to [[" + randomName() + (chance(4) ? "|lab" : "") + "]]" + (chance(10) ? "x" : "");
        }
        String old = model.held == null ? null : model.textIn(model.latest(), model.held);
        if (old != null && chance(2)) {
            int from = random.nextInt(old.length() + 1);
            int to = Math.min(old.length(), from + random.nextInt(4));
            return old.substring(0, from) + (chance(3) ? "" : randomPiece()) + old.substring(to);
        }
        StringBuilder all = new StringBuilder();
        int pieces = random.nextInt(chance(longOnes) ? 40 : 8);
        for (int i = 0; i < pieces; i++) {
            all.append(randomPiece());
        }
        return chance(60) ? all + "\t" : all.toString();
    }

    private void feedText(String s) {
        for (int from = 0; from < s.length(); from += 20) {
            int[] n = new int[5];
            for (int i = 0; i < 20; i++) {
                int c = from + i < s.length() ? s.charAt(from + i) : random.nextInt(256);
                n[i / 4] |= c << (24 - 8 * (i % 4));
            }
            check("feed(" + Arrays.toString(n) + ")", web.feed(n[0], n[1], n[2], n[3], n[4]), model.feed(n));
        }
        int n = chance(80) ? -1 : chance(80) ? s.length() + 21 : s.length();
        check("end(" + n + ")", web.end(n) ? 1 : 0, model.end(n) ? 1 : 0);
    }

    private int randomHand() {
        return chance(30) ? random.nextInt(20) - 5 : random.nextInt(10);
    }

    private int randomPage() {
        return chance(20) ? random.nextInt(20) - 2 : random.nextInt(Math.max(1, model.names.size()));
    }

    private void compareOut() {
        check("count(3)", web.count(3), model.count(3));
        for (int i = -1; i <= model.out.length(); i++) {
            int due = i < 0 || i >= model.out.length() ? -1 : model.out.charAt(i);
            if (web.out(i) != due) {
                check("out(" + i + ")", web.out(i), due);
            }
        }
    }

    private void compareFound() {
        check("count(2)", web.count(2), model.count(2));
        for (int i = -1; i <= model.found.size(); i++) {
            int due = i < 0 || i >= model.found.size() ? -1 : model.found.get(i);
            if (web.found(i) != due) {
                check("found(" + i + ")", web.found(i), due);
            }
        }
    }

    private void changeSome() {
        int hand = randomHand();
        switch (random.nextInt(12)) {
            case 0:
                check("gone(" + hand + ")", web.gone(hand), model.gone(hand));
                break;
            case 1:
                feedText(randomName());
                check("move(" + hand + ")", web.move(hand), model.move(hand, false));
                break;
            case 2:
                feedText(randomName());
                check("rename(" + hand + ")", web.rename(hand), model.move(hand, true));
                break;
            case 3:
            case 4:
            case 5:
                int c = chance(10) ? random.nextInt(140) - 5 : model.changes.size() - random.nextInt(8);
                check("back(" + c + ", " + hand + ")", web.back(c, hand), model.back(c, hand));
                break;
            default:
                if (chance(8)) {
                    check("take()", web.take(), model.take());
                } else {
                    String text = randomText();
                    feedText(text.substring(0, Math.min(400, text.length())));
                }
                check("write(" + hand + ")", web.write(hand), model.write(hand));
        }
    }

    private void askSome() {
        int page = randomPage();
        int what = random.nextInt(6) - (chance(10) ? 2 : 0);
        switch (random.nextInt(14)) {
            case 0:
                check("named(" + page + ")", web.named(page), model.web().containsKey(page) ? model.say(model.names.get(page)) : -1);
                break;
            case 1:
                check("text(" + page + ")", web.text(page), model.web().containsKey(page) ? model.say(model.web().get(page)) : -1);
                break;
            case 2:
                check("read(" + page + ", " + what + ")", web.read(page, what), model.read(page, what));
                break;
            case 3:
            case 4:
                check("show(" + page + ")", web.show(page), model.show(page));
                break;
            case 5:
                check("onward()", web.onward(), model.held == null ? -1 : model.onwardFrom(model.held));
                break;
            case 6:
                boolean through = chance(2);
                check("from(" + through + ")", web.from(through), model.from(through));
                break;
            case 7:
                check("wanted()", web.wanted(), model.wanted());
                break;
            case 8:
                check("touch()", web.touch(), model.touch());
                break;
            case 9:
                check("within(" + page + ")", web.within(page), model.within(page));
                break;
            case 10:
                int which = random.nextInt(2) + (chance(20) ? 1 : 0) - (chance(20) ? 1 : 0);
                check("members(" + which + ")", web.members(which), model.members(which));
                break;
            case 11:
                int length = model.web().getOrDefault(page, "").length();
                int i = random.nextInt(length + 3) - 1;
                check("blame(" + page + ", " + i + ")", web.blame(page, i), model.blame(page, i));
                break;
            case 12:
                int c = random.nextInt(model.changes.size() + 3) - 1;
                check("change(" + c + ", " + what + ")", web.change(c, what), model.change(c, what));
                break;
            default:
                check("count(" + what + ")", web.count(what), model.count(what));
        }
    }

    private void run() {
        for (int i = 0; i < 400 && !failed; i++) {
            int turn = random.nextInt(10);
            if (turn == 0 && chance(2)) {
                int time = chance(2) ? -1 : random.nextInt(model.changes.size() + 3) - 2;
                check("as(" + time + ")", web.as(time) ? 1 : 0, model.as(time) ? 1 : 0);
            } else if (turn < 3) {
                feedText(randomName());
                check("name()", web.name(), model.name());
            } else if (turn < 3 + changing) {
                changeSome();
            } else {
                askSome();
            }
            compareOut();
            compareFound();
            check("count(1)", web.count(1), model.count(1));
        }
    }

    public static void main(String[] args) {
        int runs = args.length > 0 ? Integer.parseInt(args[0]) : RUNS;
        long base = args.length > 1 ? Long.parseLong(args[1]) : 0;
        for (int seed = 0; seed < runs && wrong < 3; seed++) {
            new ModelRuns(base + seed).run();
        }
        if (args.length > 0) {
            System.out.println(seen);
        }
        System.exit(wrong > 0 ? 1 : 0);
    }
}
