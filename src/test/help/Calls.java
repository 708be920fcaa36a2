/** A PageWeb whose calls are counted: behind the 512th the document promises nothing, so no test may go there. */
final class Calls {
    static final int MOST = 512;

    private final PageWeb web = new PageWeb();
    private int made = 0;
    /** Whether there may be bytes on the tape. */
    private boolean fed = false;

    int made() {
        return made;
    }

    boolean mayHaveTape() {
        return fed;
    }

    private PageWeb next() {
        made++;
        if (made == MOST + 1) {
            Due.is("calls on one object, of which a test", "more than " + MOST, "at most " + MOST);
        }
        return web;
    }

    private PageWeb nextWithTape(boolean left) {
        fed = left;
        return next();
    }

    int feed(int a, int b, int c, int d, int e) {
        return nextWithTape(true).feed(a, b, c, d, e);
    }

    boolean end(int n) {
        return nextWithTape(n != 0).end(n);
    }

    int take() {
        return nextWithTape(true).take();
    }

    int name() {
        return nextWithTape(false).name();
    }

    int write(int hand) {
        return nextWithTape(false).write(hand);
    }

    int gone(int hand) {
        return next().gone(hand);
    }

    int move(int hand) {
        return nextWithTape(false).move(hand);
    }

    int rename(int hand) {
        return nextWithTape(false).rename(hand);
    }

    boolean as(int time) {
        return next().as(time);
    }

    int count(int what) {
        return next().count(what);
    }

    int found(int k) {
        return next().found(k);
    }

    int out(int i) {
        return next().out(i);
    }

    int named(int page) {
        return next().named(page);
    }

    int text(int page) {
        return next().text(page);
    }

    int read(int page, int what) {
        return next().read(page, what);
    }

    int show(int page) {
        return next().show(page);
    }

    int onward() {
        return next().onward();
    }

    int from(boolean through) {
        return next().from(through);
    }

    int wanted() {
        return next().wanted();
    }

    int touch() {
        return next().touch();
    }

    int within(int page) {
        return next().within(page);
    }

    int members(int what) {
        return next().members(what);
    }

    int blame(int page, int i) {
        return next().blame(page, i);
    }

    int change(int c, int what) {
        return next().change(c, what);
    }

    int back(int c, int hand) {
        return next().back(c, hand);
    }
}
