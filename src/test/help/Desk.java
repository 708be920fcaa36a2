import java.util.ArrayList;
import java.util.List;

/** A PageWeb that is fed with texts and tells in texts what it holds. */
final class Desk {
    final Calls web = new Calls();

    void tape(String s) {
        if (web.mayHaveTape()) {
            web.end(0);
        }
        for (int from = 0; from < s.length(); from += 20) {
            int[] n = new int[5];
            for (int i = 0; i < 20; i++) {
                n[i / 4] = n[i / 4] << 8 | (from + i < s.length() ? s.charAt(from + i) & 255 : ' ');
            }
            web.feed(n[0], n[1], n[2], n[3], n[4]);
        }
        if (s.length() % 20 != 0) {
            web.end(s.length());
        }
    }

    int name(String s) {
        tape(s);
        return web.name();
    }

    int write(String s) {
        tape(s);
        return web.write(0);
    }

    int put(String name, String s) {
        name(name);
        return write(s);
    }

    int gone(String name) {
        name(name);
        return web.gone(0);
    }

    int move(String s) {
        tape(s);
        return web.move(0);
    }

    int rename(String s) {
        tape(s);
        return web.rename(0);
    }

    /** The page of the NAME at hand is written empty until there are so many CHANGES. */
    void fillTo(int changes) {
        for (int c = web.count(0); c < changes; c++) {
            web.write(0);
        }
    }

    String out() {
        StringBuilder all = new StringBuilder();
        int size = web.count(3);
        for (int i = 0; i < size; i++) {
            all.append((char) web.out(i));
        }
        return all.toString();
    }

    List<Integer> found() {
        List<Integer> all = new ArrayList<>();
        int size = web.count(2);
        for (int k = 0; k < size; k++) {
            all.add(web.found(k));
        }
        return all;
    }

    String named(int page) {
        int n = web.named(page);
        return n < 0 ? "answer " + n : out();
    }

    String text(int page) {
        int n = web.text(page);
        return n < 0 ? "answer " + n : out();
    }

    String show(int page) {
        int n = web.show(page);
        return n < 0 ? "answer " + n : out();
    }

    String change(int c) {
        StringBuilder all = new StringBuilder();
        for (int what = 0; what < 5; what++) {
            all.append(what == 0 ? "" : " ").append(web.change(c, what));
        }
        return all.toString();
    }

    String blame(int page) {
        StringBuilder all = new StringBuilder();
        int by = web.blame(page, 0);
        for (int i = 1; by >= 0; i++) {
            all.append(i == 1 ? "" : " ").append(by);
            by = web.blame(page, i);
        }
        return all.toString();
    }

    /** All that a call which does nothing must leave as it was, but for TEXTS (telling these changes OUT). */
    String state() {
        StringBuilder all = new StringBuilder();
        for (int what = 0; what < 5; what++) {
            all.append(web.count(what)).append(' ');
        }
        return all.append("NAME ").append(web.onward()).append(" OUT ").append(out())
            .append(" FOUND ").append(found()).toString();
    }
}
