import java.util.ArrayList;
import java.util.Arrays;

/** A web of pages written by many hands; ../shared/DOC.md tells what each call does. */
public final class PageWeb {
    public static final int NONE = -1;

    private static final int MISSING = -2;
    private static final int REFUSED = -2;
    private static final int TOO_MUCH = -2;
    private static final int RING = -3;
    private static final int FULL = -3;

    private static final int TAPE_MOST = 400;
    private static final int FEED_BYTES = 20;
    private static final int OUT_MOST = 2000;
    private static final int TEXT_MOST = 300;
    private static final int CHANGE_MOST = 120;
    private static final int PAGE_MOST = 16;
    private static final int HAND_MOST = 9;
    private static final int NAME_MOST = 16;
    private static final int WORDS_MOST = 9;
    private static final int MAKING_MOST = 8;
    private static final int SHOWINGS_MOST = 400;

    private static final String KIND_HEAD = "kind:";
    private static final String MOVED_HEAD = "#to ";
    private static final int LINE_END = 10;

    // The first three are also what read() is asked for, so their numbers are the document's.
    private static final int LINK = 0;
    private static final int SHOWING = 1;
    private static final int PLAIN = 2;
    private static final int MOVED = 3;

    private final Row tape;
    private final Row shown;
    private final Row draft;
    private final int[] pagesFound;
    private int foundCount;
    private Name held;
    private int asked;
    private final Reader reader;
    private final Web web;
    private final Maker maker;
    private final Search search;
    private final NameList list;

    public PageWeb() {
        tape = new Row(TAPE_MOST);
        shown = new Row(OUT_MOST);
        draft = new Row(TEXT_MOST);
        pagesFound = new int[PAGE_MOST];
        foundCount = 0;
        held = null;
        asked = NONE;
        reader = new Reader();
        web = new Web();
        maker = new Maker(web);
        search = new Search(web);
        list = new NameList();
    }

    public int feed(int a, int b, int c, int d, int e) {
        if (tape.length() + FEED_BYTES > TAPE_MOST) {
            return NONE;
        }
        tape.putNumber(a);
        tape.putNumber(b);
        tape.putNumber(c);
        tape.putNumber(d);
        tape.putNumber(e);
        return tape.length();
    }

    public boolean end(int n) {
        if (n < 0 || n > tape.length()) {
            return false;
        }
        tape.cut(n);
        return true;
    }

    public int take() {
        tape.cut(0);
        tape.putAll(shown, 0, Math.min(shown.length(), TAPE_MOST));
        return tape.length();
    }

    public int name() {
        Name given = nameOnTape();
        if (given == null) {
            return NONE;
        }
        held = given;
        return pageOrMissing(given);
    }

    public int write(int hand) {
        int answer = writeTape(hand);
        tape.cut(0);
        return answer;
    }

    public int gone(int hand) {
        if (held == null || !isHand(hand)) {
            return NONE;
        }
        int page = web.pageOf(held, web.latest());
        if (page == NONE) {
            return NONE;
        }
        if (!web.hasRoom(1, held)) {
            return FULL;
        }
        return web.commit(page, hand, new Text(new Row(0)), true);
    }

    public int move(int hand) {
        return moveHeld(nameOnTape(), hand, false);
    }

    public int rename(int hand) {
        Name goal = nameOnTape();
        int moved = moveHeld(goal, hand, true);
        return moved < 0 ? moved : moved + commitLinks(goal, hand);
    }

    public boolean as(int time) {
        if (time < NONE || time > web.latest()) {
            return false;
        }
        asked = time;
        return true;
    }

    public int count(int what) {
        switch (what) {
            case 0:
                return web.latest();
            case 1:
                return pagesThere();
            case 2:
                return foundCount;
            case 3:
                return shown.length();
            case 4:
                return tape.length();
            default:
                return NONE;
        }
    }

    public int found(int k) {
        if (k < 0 || k >= foundCount || k >= pagesFound.length) {
            return NONE;
        }
        return pagesFound[k];
    }

    public int out(int i) {
        return shown.byteAt(i);
    }

    public int named(int page) {
        Name own = web.nameOf(page);
        if (own == null || web.there(page, now()) == null) {
            return NONE;
        }
        shown.cut(0);
        own.writeTo(shown);
        return shown.length();
    }

    public int text(int page) {
        Change change = web.there(page, now());
        if (change == null) {
            return NONE;
        }
        showRow(change.text.bytes);
        return shown.length();
    }

    public int read(int page, int what) {
        Change change = web.there(page, now());
        if (change == null) {
            return NONE;
        }
        if (what == LINK || what == SHOWING || what == PLAIN) {
            return change.text.amount(what);
        }
        Name goal = change.text.movedTo;
        if (what != MOVED || goal == null) {
            return NONE;
        }
        return pageOrMissing(goal);
    }

    public int show(int page) {
        if (web.there(page, now()) == null) {
            return NONE;
        }
        maker.makeWhole(page, now());
        if (maker.spent) {
            return TOO_MUCH;
        }
        showRow(maker.made);
        return shown.length();
    }

    public int onward() {
        return held == null ? NONE : web.follow(held, now());
    }

    public int from(boolean through) {
        if (held == null) {
            return NONE;
        }
        search.begin(held, now());
        search.markLinking(through);
        return keepMarked();
    }

    public int wanted() {
        int time = now();
        list.clear();
        for (int page = 0; page < web.pages(); page++) {
            Change change = web.there(page, time);
            if (change != null) {
                addWanted(change.text, time);
            }
        }
        return showList();
    }

    public int touch() {
        if (held == null) {
            return NONE;
        }
        search.begin(held, now());
        search.markTouched();
        return keepMarked();
    }

    public int within(int page) {
        int time = now();
        Change change = web.there(page, time);
        if (change == null) {
            return NONE;
        }
        list.clear();
        list.addKinds(change.text);
        int from = 0;
        // Each step needs a KIND's page that no step before had, so there are no more steps than pages.
        for (int step = 0; step < PAGE_MOST && from < list.size(); step++) {
            int to = list.size();
            list.closeGroup();
            for (int k = from; k < to; k++) {
                addKindsOf(list.nameAt(k), time);
            }
            from = to;
        }
        return showList();
    }

    public int members(int what) {
        if (held == null || !held.kind || what < 0 || what > 1) {
            return NONE;
        }
        search.begin(held, now());
        search.markMembers(what == 1);
        return keepMarked();
    }

    public int blame(int page, int i) {
        Change change = web.there(page, now());
        return change == null ? NONE : change.putBy.byteAt(i);
    }

    public int change(int c, int what) {
        Change asking = web.numbered(c);
        if (asking == null) {
            return NONE;
        }
        switch (what) {
            case 0:
                return asking.page;
            case 1:
                return asking.hand;
            case 2:
                return asking.start;
            case 3:
                return asking.replaced;
            case 4:
                return asking.came;
            default:
                return NONE;
        }
    }

    public int back(int c, int hand) {
        Change taken = web.numbered(c);
        if (taken == null || !isHand(hand)) {
            return NONE;
        }
        Change latest = web.there(taken.page, web.latest());
        Change before = web.there(taken.page, c - 1);
        int start = web.startNow(c);
        if (latest == null || before == null || taken.gone || start == NONE) {
            return REFUSED;
        }
        Row bytes = latest.text.bytes;
        draft.cut(0);
        draft.putAll(bytes, 0, start);
        draft.putAll(before.text.bytes, taken.start, taken.start + taken.replaced);
        draft.putAll(bytes, start + taken.came, bytes.length());
        if (draft.over || !web.hasRoom(1, web.nameOf(taken.page))) {
            return FULL;
        }
        return web.commit(taken.page, hand, reader.textOf(draft), false);
    }

    private int now() {
        return asked == NONE ? web.latest() : asked;
    }

    private static boolean isHand(int hand) {
        return hand >= 0 && hand <= HAND_MOST;
    }

    private int pageOrMissing(Name goal) {
        int page = web.pageOf(goal, now());
        return page == NONE ? MISSING : page;
    }

    private Name nameOnTape() {
        Name given = reader.fold(tape, 0, tape.length());
        tape.cut(0);
        return given;
    }

    private int writeTape(int hand) {
        if (held == null || !isHand(hand)) {
            return NONE;
        }
        if (!isText(tape)) {
            return REFUSED;
        }
        if (!web.hasRoom(1, held)) {
            return FULL;
        }
        return web.commit(web.pageFor(held), hand, reader.textOf(tape), false);
    }

    private static boolean isText(Row row) {
        for (int i = 0; i < row.length(); i++) {
            int b = row.byteAt(i);
            if (b != LINE_END && (b < 32 || b > 126)) {
                return false;
            }
        }
        return row.length() <= TEXT_MOST;
    }

    /** withLinks: room is asked for as rename() needs it, though the LINKS are left as they are. */
    private int moveHeld(Name goal, int hand, boolean withLinks) {
        int page = held == null ? NONE : web.pageOf(held, web.latest());
        if (page == NONE || !isHand(hand)) {
            return NONE;
        }
        if (!canMoveTo(goal)) {
            return REFUSED;
        }
        int more = changesBehindMove(goal, withLinks);
        if (more == NONE) {
            return REFUSED;
        }
        if (!web.hasRoom(2 + more, goal)) {
            return FULL;
        }
        draftMoved(goal);
        return commitMove(page, goal, hand, reader.textOf(draft));
    }

    private boolean canMoveTo(Name goal) {
        return goal != null && held != null && !goal.kind && !held.kind && !goal.same(held)
            && web.pageOf(goal, web.latest()) == NONE;
    }

    /**
     * How many CHANGES follow the first two of a move, NONE if a TEXT would be too long. They can be
     * counted ahead: the new page will have the moved one's TEXT, so the old page stands in for it here.
     */
    private int changesBehindMove(Name goal, boolean withLinks) {
        int more = 0;
        for (int page = 0; page < web.pages(); page++) {
            Change change = web.there(page, web.latest());
            if (change == null) {
                continue;
            }
            if (change.text.isMovedTo(held)) {
                more++;
            } else if (withLinks && change.text.hasLinkTo(held)) {
                more++;
                draftRelinked(change.text, goal);
                if (draft.over) {
                    return NONE;
                }
            }
        }
        return more;
    }

    private void draftMoved(Name goal) {
        draft.cut(0);
        draft.putText(MOVED_HEAD);
        draft.putText("[[");
        goal.writeTo(draft);
        draft.putText("]]");
    }

    /** How many CHANGES it took. */
    private int commitMove(int page, Name goal, int hand, Text moved) {
        int before = web.latest();
        Change moving = web.there(page, before);
        if (moving == null) {
            return NONE;
        }
        web.commit(web.pageFor(goal), hand, moving.text, false);
        web.commit(page, hand, moved, false);
        for (int other = 0; other < web.pages(); other++) {
            Change change = web.there(other, web.latest());
            if (change != null && change.text.isMovedTo(held)) {
                web.commit(other, hand, moved, false);
            }
        }
        return web.latest() - before;
    }

    /** How many CHANGES it took. */
    private int commitLinks(Name goal, int hand) {
        int before = web.latest();
        for (int page = 0; page < web.pages(); page++) {
            Change change = web.there(page, web.latest());
            if (change != null && change.text.hasLinkTo(held)) {
                draftRelinked(change.text, goal);
                web.commit(page, hand, reader.textOf(draft), false);
            }
        }
        return web.latest() - before;
    }

    private void draftRelinked(Text text, Name goal) {
        draft.cut(0);
        if (goal == null) {
            return;
        }
        for (Part part = text.first; part != null; part = part.next) {
            if (part.isLinkTo(held)) {
                draft.putText("[[");
                goal.writeTo(draft);
                draft.putAll(text.bytes, part.bar, part.to);
            } else {
                draft.putAll(text.bytes, part.from, part.to);
            }
        }
    }

    private int pagesThere() {
        int time = now();
        int there = 0;
        for (int page = 0; page < web.pages(); page++) {
            if (web.there(page, time) != null) {
                there++;
            }
        }
        return there;
    }

    private void addWanted(Text text, int time) {
        for (Part part = text.first; part != null; part = part.next) {
            if (part.isLinkToPage() && web.pageOf(part.goal, time) == NONE) {
                list.add(part.goal);
            }
        }
    }

    private void addKindsOf(Name kind, int time) {
        if (kind == null) {
            return;
        }
        Change change = web.there(web.pageOf(kind, time), time);
        if (change != null) {
            list.addKinds(change.text);
        }
    }

    private void showRow(Row row) {
        shown.cut(0);
        shown.putAll(row, 0, row.length());
    }

    private int showList() {
        if (list.tooLong()) {
            return TOO_MUCH;
        }
        shown.cut(0);
        for (int k = 0; k < list.size(); k++) {
            Name listed = list.nameAt(k);
            if (listed != null) {
                listed.writeTo(shown);
                shown.put(LINE_END);
            }
        }
        return list.size();
    }

    private int keepMarked() {
        foundCount = 0;
        for (int page = 0; page < pagesFound.length; page++) {
            if (search.isMarked(page) && foundCount < pagesFound.length) {
                pagesFound[foundCount] = page;
                foundCount++;
            }
        }
        return foundCount;
    }

    /** Bytes up to a bound; of what would go beyond it nothing is kept but that it was too much. */
    private static final class Row {
        private byte[] bytes;
        private int size;
        private int bound;
        boolean over;

        Row(int most) {
            bytes = new byte[Math.max(0, most)];
            size = 0;
            bound = bytes.length;
            over = false;
        }

        int length() {
            return size;
        }

        int byteAt(int i) {
            if (i < 0 || i >= size || i >= bytes.length) {
                return NONE;
            }
            return bytes[i] & 255;
        }

        void put(int b) {
            if (size >= bound || size >= bytes.length) {
                over = true;
                return;
            }
            bytes[size] = (byte) b;
            size++;
        }

        void putNumber(int number) {
            put(number >>> 24);
            put(number >>> 16);
            put(number >>> 8);
            put(number);
        }

        void putText(String text) {
            for (int i = 0; i < text.length(); i++) {
                put(text.charAt(i));
            }
        }

        void putAll(Row source, int from, int to) {
            if (source == null || from < 0 || from >= to || to > source.size) {
                return;
            }
            if (to - from > bound - size) {
                over = true;
                return;
            }
            System.arraycopy(source.bytes, from, bytes, size, to - from);
            size += to - from;
        }

        void cut(int n) {
            size = Math.max(0, Math.min(n, size));
            over = false;
        }

        /** Room for so many bytes more and not for one beyond: the one way by which a row grows. */
        void allow(int more) {
            int need = size + Math.max(0, more);
            if (need > bytes.length) {
                bytes = Arrays.copyOf(bytes, Math.max(need, 2 * bytes.length));
            }
            bound = need;
        }
    }

    /** A NAME, FOLDED: its bytes (behind kind:) in two numbers, so that these compare as the bytes do. */
    private static final class Name {
        final boolean kind;
        private final long head;
        private final long tail;

        Name(boolean kind, long head, long tail) {
            this.kind = kind;
            this.head = head;
            this.tail = tail;
        }

        boolean same(Name other) {
            return other != null && kind == other.kind && head == other.head && tail == other.tail;
        }

        /** Among KINDS alone, or among others alone. */
        boolean isBefore(Name other) {
            return head < other.head || head == other.head && tail < other.tail;
        }

        int length() {
            int length = kind ? KIND_HEAD.length() : 0;
            for (int i = 0; i < NAME_MOST; i++) {
                if (byteAt(i) != 0) {
                    length++;
                }
            }
            return length;
        }

        void writeTo(Row row) {
            if (kind) {
                row.putText(KIND_HEAD);
            }
            for (int i = 0; i < NAME_MOST; i++) {
                int b = byteAt(i);
                if (b != 0) {
                    row.put(b);
                }
            }
        }

        private int byteAt(int i) {
            long half = i < 8 ? head : tail;
            return (int) (half >>> (56 - 8 * (i & 7))) & 255;
        }
    }

    /** A LINK, a SHOWING, or plain bytes side by side, from .. to - 1 of a TEXT. */
    private static final class Part {
        final int sort;
        final int from;
        final int to;
        /** Where the first | is, or else where the inside ends. */
        final int bar;
        final Name goal;
        Part next;

        Part(int sort, int from, int to, int bar, Name goal) {
            this.sort = sort;
            this.from = from;
            this.to = to;
            this.bar = bar;
            this.goal = goal;
            this.next = null;
        }

        int insideEnd() {
            return sort == PLAIN ? to : to - 2;
        }

        /** Where that begins which a LINK shows, or which plain bytes are. */
        int shownFrom() {
            if (sort == PLAIN) {
                return from;
            }
            return bar < insideEnd() ? bar + 1 : from + 2;
        }

        boolean isLinkTo(Name name) {
            return sort == LINK && goal != null && goal.same(name);
        }

        boolean isLinkToPage() {
            return sort == LINK && goal != null && !goal.kind;
        }

        boolean isLinkToKind() {
            return sort == LINK && goal != null && goal.kind;
        }
    }

    /** A TEXT that has been read: once, as no call changes it. */
    private static final class Text {
        final Row bytes;
        Part first;
        private Part last;
        Name movedTo;

        Text(Row bytes) {
            this.bytes = bytes;
            this.first = null;
            this.last = null;
            this.movedTo = null;
        }

        void append(Part part) {
            if (last == null) {
                first = part;
            } else {
                last.next = part;
            }
            last = part;
        }

        void appendPlain(int from, int to) {
            if (from < to) {
                append(new Part(PLAIN, from, to, to, null));
            }
        }

        int amount(int sort) {
            int amount = 0;
            for (Part part = first; part != null; part = part.next) {
                if (part.sort == sort) {
                    amount += sort == PLAIN ? part.to - part.from : 1;
                }
            }
            return amount;
        }

        boolean hasLinkTo(Name name) {
            for (Part part = first; part != null; part = part.next) {
                if (part.isLinkTo(name)) {
                    return true;
                }
            }
            return false;
        }

        boolean isMovedTo(Name name) {
            return movedTo != null && movedTo.same(name);
        }
    }

    /** Folds NAMES and reads TEXTS. */
    private static final class Reader {
        private final Row folded = new Row(KIND_HEAD.length() + 1 + NAME_MOST);

        Text textOf(Row source) {
            Row bytes = new Row(source.length());
            bytes.putAll(source, 0, source.length());
            Text text = new Text(bytes);
            int behind = 0;
            for (int i = 0; i < bytes.length(); i++) {
                Part part = i < behind ? null : partAt(bytes, i);
                if (part != null) {
                    text.appendPlain(behind, i);
                    text.append(part);
                    behind = part.to;
                }
            }
            text.appendPlain(behind, bytes.length());
            text.movedTo = movedBy(text);
            return text;
        }

        private static Name movedBy(Text text) {
            Part head = text.first;
            if (head == null || head.sort != PLAIN || head.to != MOVED_HEAD.length()) {
                return null;
            }
            for (int i = 0; i < MOVED_HEAD.length(); i++) {
                if (text.bytes.byteAt(i) != MOVED_HEAD.charAt(i)) {
                    return null;
                }
            }
            Part link = head.next;
            return link != null && link.isLinkToPage() && link.next == null ? link.goal : null;
        }

        /** The LINK or SHOWING that begins there, or null. */
        private Part partAt(Row bytes, int from) {
            int open = bytes.byteAt(from);
            if (open != '[' && open != '{' || bytes.byteAt(from + 1) != open) {
                return null;
            }
            int close = open == '[' ? ']' : '}';
            int end = bytes.length();
            int bar = end;
            int bars = 0;
            for (int i = from + 2; i < end; i++) {
                int b = bytes.byteAt(i);
                if (b == '|') {
                    bar = Math.min(bar, i);
                    bars++;
                } else if (endsInside(b)) {
                    end = i;
                }
            }
            if (bytes.byteAt(end) != close || bytes.byteAt(end + 1) != close) {
                return null;
            }
            if (open == '{' && bars > WORDS_MOST) {
                return null;
            }
            bar = Math.min(bar, end);
            Name goal = fold(bytes, from + 2, bar);
            return goal == null ? null : new Part(open == '[' ? LINK : SHOWING, from, end + 2, bar, goal);
        }

        private static boolean endsInside(int b) {
            return b == '[' || b == ']' || b == '{' || b == '}' || b == LINE_END;
        }

        /** The NAME that these bytes are, or null. */
        Name fold(Row row, int from, int to) {
            folded.cut(0);
            boolean blank = false;
            for (int i = from; i < to; i++) {
                int b = row.byteAt(i);
                if (b == ' ' || b == '_') {
                    blank = true;
                    continue;
                }
                if (blank && folded.length() > 0) {
                    folded.put(' ');
                }
                blank = false;
                folded.put(b >= 'A' && b <= 'Z' ? b + 32 : b);
            }
            if (folded.over) {
                return null;
            }
            boolean kind = foldedIsKind();
            int start = kind ? KIND_HEAD.length() : 0;
            return packed(kind, folded.byteAt(start) == ' ' ? start + 1 : start);
        }

        private Name packed(boolean kind, int start) {
            int length = folded.length() - start;
            if (length < 1 || length > NAME_MOST) {
                return null;
            }
            long head = 0;
            long tail = 0;
            for (int i = 0; i < NAME_MOST; i++) {
                int b = i < length ? folded.byteAt(start + i) : 0;
                if (i < length && !isNameByte(b)) {
                    return null;
                }
                if (i < 8) {
                    head = head << 8 | b;
                } else {
                    tail = tail << 8 | b;
                }
            }
            return new Name(kind, head, tail);
        }

        private boolean foldedIsKind() {
            for (int i = 0; i < KIND_HEAD.length(); i++) {
                if (folded.byteAt(i) != KIND_HEAD.charAt(i)) {
                    return false;
                }
            }
            return true;
        }

        private static boolean isNameByte(int b) {
            return b >= 'a' && b <= 'z' || b >= '0' && b <= '9' || b == ' ';
        }
    }

    /** A CHANGE, with the page's TEXT behind it and the CHANGE that put each byte of that. */
    private static final class Change {
        final int page;
        final int hand;
        final boolean gone;
        final Text text;
        final int start;
        final int replaced;
        final int came;
        final Row putBy;

        /** before: the CHANGE that the page was as of, or null if there was no page. */
        Change(int number, int page, int hand, Change before, Text text, boolean gone) {
            this.page = page;
            this.hand = hand;
            this.gone = gone;
            this.text = text;
            Row was = before == null ? new Row(0) : before.text.bytes;
            Row is = text.bytes;
            start = alikeAtBeginning(was, is);
            int end = alikeAtEnd(was, is, start);
            replaced = was.length() - start - end;
            came = is.length() - start - end;
            putBy = new Row(is.length());
            if (before != null) {
                putBy.putAll(before.putBy, 0, start);
            }
            for (int i = 0; i < came; i++) {
                putBy.put(number);
            }
            if (before != null) {
                putBy.putAll(before.putBy, was.length() - end, was.length());
            }
        }

        private static int alikeAtBeginning(Row was, Row is) {
            int most = Math.min(was.length(), is.length());
            for (int i = 0; i < most; i++) {
                if (was.byteAt(i) != is.byteAt(i)) {
                    return i;
                }
            }
            return most;
        }

        private static int alikeAtEnd(Row was, Row is, int start) {
            int most = Math.min(was.length(), is.length()) - start;
            for (int i = 0; i < most; i++) {
                if (was.byteAt(was.length() - 1 - i) != is.byteAt(is.length() - 1 - i)) {
                    return i;
                }
            }
            return most;
        }
    }

    /** All CHANGES, and what each page was behind each of them. */
    private static final class Web {
        private final Change[] changes = new Change[CHANGE_MOST + 1];
        /** For each TIME and page the page's last CHANGE up to then, 0 for none. */
        private final int[] lastAt = new int[(CHANGE_MOST + 1) * PAGE_MOST];
        private final Name[] names = new Name[PAGE_MOST];
        private int changeCount = 0;
        private int pageCount = 0;

        int latest() {
            return changeCount;
        }

        /** How many numbers have been given to pages, there or not. */
        int pages() {
            return pageCount;
        }

        Change numbered(int c) {
            if (c < 1 || c > changeCount || c >= changes.length) {
                return null;
            }
            return changes[c];
        }

        Name nameOf(int page) {
            if (page < 0 || page >= pageCount || page >= names.length) {
                return null;
            }
            return names[page];
        }

        /** The CHANGE that a page is as of at a TIME, or null if it is not there. */
        Change there(int page, int time) {
            if (page < 0 || page >= pageCount || time < 0 || time > changeCount) {
                return null;
            }
            int at = time * PAGE_MOST + page;
            Change last = at < lastAt.length ? numbered(lastAt[at]) : null;
            return last == null || last.gone ? null : last;
        }

        int pageOf(Name name, int time) {
            int page = numberOf(name);
            return there(page, time) == null ? NONE : page;
        }

        private int numberOf(Name name) {
            for (int page = 0; page < pageCount && page < names.length; page++) {
                if (name != null && name.same(names[page])) {
                    return page;
                }
            }
            return NONE;
        }

        boolean hasRoom(int more, Name name) {
            return changeCount + more <= CHANGE_MOST && (pageCount < PAGE_MOST || numberOf(name) != NONE);
        }

        /** The number of the NAME's page, a new one if it has none yet. */
        int pageFor(Name name) {
            int page = numberOf(name);
            if (page != NONE || name == null || pageCount >= names.length) {
                return page;
            }
            names[pageCount] = name;
            pageCount++;
            return pageCount - 1;
        }

        int commit(int page, int hand, Text text, boolean gone) {
            int number = changeCount + 1;
            if (number >= changes.length || page < 0 || page >= pageCount) {
                return FULL;
            }
            changes[number] = new Change(number, page, hand, there(page, changeCount), text, gone);
            int row = number * PAGE_MOST;
            for (int other = 0; other < PAGE_MOST && row + other < lastAt.length; other++) {
                lastAt[row + other] = other == page ? number : lastAt[row - PAGE_MOST + other];
            }
            changeCount = number;
            return number;
        }

        /** The page that comes ONWARD from a NAME, MISSING or RING. */
        int follow(Name name, int time) {
            Name at = name;
            // More moves than pages, and one of these has come again.
            for (int moves = 0; moves <= PAGE_MOST; moves++) {
                int page = pageOf(at, time);
                Change change = there(page, time);
                if (change == null) {
                    return MISSING;
                }
                if (change.text.movedTo == null) {
                    return page;
                }
                at = change.text.movedTo;
            }
            return RING;
        }

        /** Where what a CHANGE brought begins now; NONE if a later one touched it or let the page be GONE. */
        int startNow(int c) {
            Change moving = numbered(c);
            if (moving == null) {
                return NONE;
            }
            int start = moving.start;
            for (int d = c + 1; d <= changeCount; d++) {
                Change later = numbered(d);
                if (later == null || later.page != moving.page) {
                    continue;
                }
                int laterEnd = later.start + later.replaced;
                if (later.gone || later.start <= start + moving.came && laterEnd >= start) {
                    return NONE;
                }
                if (laterEnd < start) {
                    start += later.came - later.replaced;
                }
            }
            return start;
        }
    }

    /** MADE texts. */
    private static final class Maker {
        private final Web web;
        final Row made = new Row(OUT_MOST);
        /** The WORDS of all pages being MADE, one page's behind the other's. */
        private final Row words = new Row(0);
        /** For each page being MADE where its WORDS begin, and where each of them ends. */
        private final int[] edges = new int[MAKING_MOST * (WORDS_MOST + 1)];
        private final int[] wordCounts = new int[MAKING_MOST];
        private final boolean[] making = new boolean[PAGE_MOST];
        private int time = 0;
        private int showings = 0;
        boolean spent = false;

        Maker(Web web) {
            this.web = web;
        }

        /** The MADE text of a page without WORDS is in made, unless it is spent. */
        void makeWhole(int page, int asked) {
            begin(asked);
            make(page, 0);
        }

        private void begin(int asked) {
            time = asked;
            showings = 0;
            spent = false;
            made.cut(0);
            words.cut(0);
            for (int page = 0; page < making.length; page++) {
                making[page] = false;
            }
            for (int level = 0; level < wordCounts.length; level++) {
                wordCounts[level] = 0;
            }
        }

        /** level: how many other pages are being MADE. */
        private void make(int page, int level) {
            Change change = web.there(page, time);
            if (change == null || page >= making.length || level >= MAKING_MOST) {
                return;
            }
            making[page] = true;
            Row bytes = change.text.bytes;
            for (Part part = change.text.first; part != null && !spent; part = part.next) {
                if (part.sort == SHOWING) {
                    makeShowing(bytes, part, level);
                } else if (!part.isLinkToKind()) {
                    fill(made, bytes, part.shownFrom(), part.insideEnd(), level);
                }
            }
            making[page] = false;
        }

        private void makeShowing(Row bytes, Part part, int level) {
            showings++;
            if (showings > SHOWINGS_MOST) {
                spent = true;
                return;
            }
            int page = web.follow(part.goal, time);
            if (page < 0 || page >= making.length) {
                putMark('?', part.goal);
            } else if (making[page]) {
                putMark('!', web.nameOf(page));
            } else if (level + 1 >= MAKING_MOST) {
                made.put('^');
            } else {
                int before = words.length();
                fillWords(bytes, part, level);
                make(page, level + 1);
                words.cut(before);
            }
            spent = spent || made.over;
        }

        private void putMark(char mark, Name name) {
            made.put(mark);
            if (name != null) {
                name.writeTo(made);
            }
            made.put(mark);
        }

        /** The SHOWING's WORDS become those of the next level. */
        private void fillWords(Row bytes, Part part, int level) {
            int end = part.insideEnd();
            int from = part.bar + 1;
            int word = 0;
            setEdge(level + 1, 0);
            for (int i = from; i <= end && !spent; i++) {
                if (i == end || bytes.byteAt(i) == '|') {
                    words.allow(OUT_MOST);
                    fill(words, bytes, from, i, level);
                    word++;
                    setEdge(level + 1, word);
                    from = i + 1;
                }
            }
            if (level + 1 < wordCounts.length) {
                wordCounts[level + 1] = word;
            }
        }

        private void setEdge(int level, int word) {
            int at = level * (WORDS_MOST + 1) + word;
            if (word <= WORDS_MOST && at < edges.length) {
                edges[at] = words.length();
            }
        }

        /** These bytes come behind the target's, with the page's own WORDS filled in. */
        private void fill(Row target, Row bytes, int from, int to, int level) {
            int rest = from;
            for (int i = from; i + 1 < to && !target.over; i++) {
                int word = bytes.byteAt(i) == '$' ? bytes.byteAt(i + 1) - '0' : 0;
                int edge = level * (WORDS_MOST + 1) + word;
                if (word >= 1 && hasWord(level, word) && edge < edges.length) {
                    target.putAll(bytes, rest, i);
                    target.putAll(words, edges[edge - 1], edges[edge]);
                    rest = i + 2;
                }
            }
            target.putAll(bytes, rest, to);
            spent = spent || target.over;
        }

        private boolean hasWord(int level, int word) {
            return level >= 0 && level < wordCounts.length && word <= wordCounts[level];
        }
    }

    /** Marks pages that a NAME can be come to from, in one of several ways. */
    private static final class Search {
        private final Web web;
        private final boolean[] marks = new boolean[PAGE_MOST];
        private Name goal = null;
        private int time = 0;

        Search(Web web) {
            this.web = web;
        }

        void begin(Name name, int asked) {
            goal = name;
            time = asked;
            for (int page = 0; page < marks.length; page++) {
                marks[page] = false;
            }
        }

        boolean isMarked(int page) {
            return page >= 0 && page < marks.length && marks[page];
        }

        void markLinking(boolean through) {
            // Marks would count as goals while the pages are gone through, so they are set behind it.
            int linking = 0;
            for (int page = 0; page < web.pages(); page++) {
                Change change = web.there(page, time);
                if (change != null && hasLinking(change.text, through)) {
                    linking |= 1 << page;
                }
            }
            for (int page = 0; page < marks.length; page++) {
                marks[page] = (linking >> page & 1) == 1;
            }
        }

        private boolean hasLinking(Text text, boolean through) {
            for (Part part = text.first; part != null; part = part.next) {
                if (part.isLinkTo(goal) || through && part.sort == LINK && passes(part.goal)) {
                    return true;
                }
            }
            return false;
        }

        void markTouched() {
            int own = web.pageOf(goal, time);
            if (own >= 0 && own < marks.length) {
                marks[own] = true;
            }
            spread(SHOWING, true);
        }

        void markMembers(boolean allSteps) {
            spread(LINK, allSteps);
        }

        /** Marks pages with such parts as lead on to the goal or to a marked page, until there is none more. */
        private void spread(int sort, boolean allSteps) {
            boolean grown = true;
            for (int round = 0; round < PAGE_MOST && grown; round++) {
                grown = false;
                for (int page = 0; page < web.pages() && page < marks.length; page++) {
                    Change change = web.there(page, time);
                    if (change != null && !marks[page] && leadsOn(change.text, sort, allSteps)) {
                        marks[page] = true;
                        grown = true;
                    }
                }
            }
        }

        private boolean leadsOn(Text text, int sort, boolean allSteps) {
            for (Part part = text.first; part != null; part = part.next) {
                if (part.sort != sort) {
                    continue;
                }
                if (sort == SHOWING ? passes(part.goal) : isMember(part, allSteps)) {
                    return true;
                }
            }
            return false;
        }

        private boolean isMember(Part part, boolean allSteps) {
            return part.isLinkTo(goal)
                || allSteps && part.isLinkToKind() && isMarked(web.pageOf(part.goal, time));
        }

        /** Whether the goal or a marked page comes ONWARD from a NAME, in the end or on the way. */
        private boolean passes(Name name) {
            Name at = name;
            for (int moves = 0; moves <= PAGE_MOST && at != null; moves++) {
                int page = web.pageOf(at, time);
                if (at.same(goal) || isMarked(page)) {
                    return true;
                }
                Change change = web.there(page, time);
                at = change == null ? null : change.text.movedTo;
            }
            return false;
        }
    }

    /** NAMES, none twice, by bytes within each group; no more of them than OUT could hold, and one. */
    private static final class NameList {
        private final ArrayList<Name> list = new ArrayList<>();
        private int groupFrom = 0;
        private int bytes = 0;

        void clear() {
            list.clear();
            groupFrom = 0;
            bytes = 0;
        }

        int size() {
            return list.size();
        }

        boolean tooLong() {
            return bytes > OUT_MOST;
        }

        Name nameAt(int k) {
            return k >= 0 && k < list.size() ? list.get(k) : null;
        }

        /** What comes from now on stands behind all that came before. */
        void closeGroup() {
            groupFrom = list.size();
        }

        void addKinds(Text text) {
            for (Part part = text.first; part != null; part = part.next) {
                if (part.isLinkToKind()) {
                    add(part.goal);
                }
            }
        }

        void add(Name name) {
            if (name == null || tooLong() || isInClosed(name)) {
                return;
            }
            int low = groupFrom;
            int high = list.size();
            for (int step = 0; step < 32 && low < high; step++) {
                int middle = (low + high) / 2;
                Name other = nameAt(middle);
                if (other != null && other.isBefore(name)) {
                    low = middle + 1;
                } else {
                    high = middle;
                }
            }
            if (!name.same(nameAt(low)) && low >= 0 && low <= list.size()) {
                list.add(low, name);
                bytes += name.length() + 1;
            }
        }

        private boolean isInClosed(Name name) {
            for (int k = 0; k < groupFrom; k++) {
                if (name.same(nameAt(k))) {
                    return true;
                }
            }
            return false;
        }
    }
}
