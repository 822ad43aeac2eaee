/**
 * The core of a viewer of texts: bytes in chunks, places told by bytes, letters, lines and cells, edits that can be
 * staged and undone, marks and a reader that go along with what changes, and images.
 *
 * A text has no more than 120 bytes, so the sums of every measure are kept in plain rows, one sum for each place, and
 * not in a tree: a row is made anew by one walk over the text, and read without one.
 */
public final class ChunkView {
    public static final int BAD = -1, STATE = -2, FULL = -3, NONE = -9;

    private static final int TEXT_LIMIT = 120;
    private static final int CHUNK_LIMIT = 8;
    private static final int TAPE_LIMIT = 24;
    private static final int STAGED_LIMIT = 4;
    private static final int MARKS_LIMIT = 8;
    private static final int UNDO_LIMIT = 8;
    private static final int IMAGES = 2;

    // Staged edits are done from the last to the first: until the first ones take their bytes out, the text may hold
    // the tapes of all of them beside what it had.
    private static final int TEXT_ROOM = TEXT_LIMIT + STAGED_LIMIT * TAPE_LIMIT;

    private static final int BYTES = 0;
    private static final int LETTERS = 1;
    private static final int ENDS = 2;
    private static final int CELLS = 3;

    private static final int LINE_END = 10;
    private static final int LAST_BYTE = 255;
    private static final int FIRST_NAME = 'a';
    private static final int NAMES = 26;

    private final Page text = new Page(TEXT_ROOM);
    private final Sums sums = new Sums();
    private final Row tape = new Row(TAPE_LIMIT);
    private final Staged staged = new Staged();
    private final History history = new History();
    // An image that was never kept is null.
    private final Page[] images = new Page[IMAGES];

    public ChunkView() {
    }

    // ---- what changes

    public int type(int b) {
        if (b < 0 || b > LAST_BYTE) {
            return BAD;
        }
        if (tape.size() >= TAPE_LIMIT) {
            return FULL;
        }
        tape.add(b);
        return tape.size();
    }

    public int clear() {
        int had = tape.size();
        tape.empties();
        return had;
    }

    public int edits(int place, int n) {
        if (!isStretch(place, n)) {
            return BAD;
        }
        if (staged.size() > 0) {
            return STATE;
        }
        if (text.bytes.size() - n + tape.size() > TEXT_LIMIT) {
            return FULL;
        }
        history.remembers(text);
        text.replaces(place, n, tape);
        tape.empties();
        sums.measures(text.bytes);
        return text.bytes.size();
    }

    public int stages(int place, int n) {
        if (!isStretch(place, n)) {
            return BAD;
        }
        if (staged.touches(place, n)) {
            return STATE;
        }
        if (staged.size() >= STAGED_LIMIT) {
            return FULL;
        }
        staged.adds(place, n, tape);
        tape.empties();
        return staged.size();
    }

    public int does() {
        if (staged.size() == 0) {
            return STATE;
        }
        if (text.bytes.size() + staged.growth() > TEXT_LIMIT) {
            return FULL;
        }
        history.remembers(text);
        staged.changesAll(text);
        staged.empties();
        sums.measures(text.bytes);
        return text.bytes.size();
    }

    public int drops() {
        int were = staged.size();
        staged.empties();
        return were;
    }

    public int undo() {
        if (history.size() == 0 || staged.size() > 0) {
            return STATE;
        }
        history.restores(text);
        sums.measures(text.bytes);
        return history.size();
    }

    // ---- places

    public int at(int place) {
        if (place < 0 || place >= text.bytes.size()) {
            return BAD;
        }
        return text.bytes.get(place);
    }

    public int tells(int from, int v, int to) {
        if (!isMeasure(from) || !isMeasure(to) || v < 0 || v > sums.total(from)) {
            return BAD;
        }
        return sums.ahead(to, sums.placeBy(from, v));
    }

    public int spot(int place, int what) {
        if (!isPlace(place) || what < 0 || what > 3) {
            return BAD;
        }
        int line = sums.ahead(ENDS, place);
        if (what == 0) {
            return line;
        }
        return sums.between(measureInLine(what), sums.lineBegin(line), place);
    }

    public int column(int line, int cells) {
        if (!isLine(line) || cells < 0) {
            return BAD;
        }
        return sums.farthest(CELLS, sums.lineBegin(line), sums.lineEnd(line), cells);
    }

    public int line(int k, int what) {
        if (!isLine(k) || what < 0 || what > 3) {
            return BAD;
        }
        int begin = sums.lineBegin(k);
        if (what == 0) {
            return begin;
        }
        return sums.between(measureInLine(what), begin, sums.lineEnd(k));
    }

    public int wide(int k) {
        if (!isLine(k)) {
            return BAD;
        }
        return sums.lineByWidth(k);
    }

    public int chunk(int k, int what) {
        if (k < 0 || k >= text.chunks.size() || what < 0 || what > 4) {
            return BAD;
        }
        int begin = text.chunkBegin(k);
        int end = begin + text.chunks.get(k);
        if (what == 4) {
            return widestPart(begin, end);
        }
        return sums.between(what, begin, end);
    }

    // ---- marks, the reader

    public int marks(int name, int place) {
        if (!isName(name) || !isPlace(place)) {
            return BAD;
        }
        int was = text.markPlace(name);
        if (was == NONE && text.marksSet() >= MARKS_LIMIT) {
            return FULL;
        }
        text.putMark(name, place);
        return was;
    }

    public int lifts(int name) {
        if (!isName(name)) {
            return BAD;
        }
        int was = text.markPlace(name);
        if (was == NONE) {
            return STATE;
        }
        text.putMark(name, NONE);
        return was;
    }

    public int mark(int name) {
        if (!isName(name)) {
            return BAD;
        }
        return text.markPlace(name);
    }

    public int next(int place) {
        if (!isPlace(place)) {
            return BAD;
        }
        return text.markFrom(place);
    }

    public int seeks(int place) {
        if (!isPlace(place)) {
            return BAD;
        }
        int was = text.reader;
        text.reader = place;
        return was;
    }

    public int reads() {
        if (text.reader >= text.bytes.size()) {
            return NONE;
        }
        return text.readsLetter();
    }

    // ---- images

    public int keep(int image) {
        if (image < 0 || image >= images.length) {
            return BAD;
        }
        Page kept = images[image];
        if (kept == null) {
            kept = new Page(TEXT_LIMIT);
            images[image] = kept;
        }
        kept.becomes(text);
        return text.bytes.size();
    }

    public int back(int image) {
        if (image < 0 || image >= images.length) {
            return BAD;
        }
        Page kept = images[image];
        if (kept == null) {
            return STATE;
        }
        text.becomes(kept);
        history.forgets();
        staged.empties();
        sums.measures(text.bytes);
        return text.bytes.size();
    }

    public int count(int what) {
        switch (what) {
            case BYTES:
            case LETTERS:
            case ENDS:
            case CELLS:
                return sums.total(what);
            case 4:
                return sums.lines();
            case 5:
                return sums.lineWidth(sums.lineByWidth(0));
            case 6:
                return text.chunks.size();
            case 7:
                return text.marksSet();
            case 8:
                return text.reader;
            case 9:
                return tape.size();
            case 10:
                return staged.size();
            case 11:
                return history.size();
            default:
                return BAD;
        }
    }

    public long digest() {
        long h = text.chunks.mixedInto(text.bytes.mixedInto(17L));
        for (int name = FIRST_NAME; name < FIRST_NAME + NAMES; name++) {
            int place = text.markPlace(name);
            if (place != NONE) {
                h = 31L * h + name;
                h = 31L * h + place;
            }
        }
        return h;
    }

    // ---- what is as told

    private boolean isPlace(int place) {
        return place >= 0 && place <= text.bytes.size();
    }

    private boolean isStretch(int place, int n) {
        // The sum of a place and any number might wrap around, the difference of two small ones does not.
        return isPlace(place) && n >= 0 && n <= text.bytes.size() - place;
    }

    private boolean isLine(int k) {
        return k >= 0 && k < sums.lines();
    }

    private static boolean isMeasure(int measure) {
        return measure >= BYTES && measure <= CELLS;
    }

    private static boolean isName(int name) {
        return name >= FIRST_NAME && name < FIRST_NAME + NAMES;
    }

    // spot() and line() tell where a line is by 0, so that their other numbers are not those of the measures.
    private static int measureInLine(int what) {
        return what == 1 ? BYTES : what == 2 ? LETTERS : CELLS;
    }

    private int widestPart(int begin, int end) {
        int widest = 0;
        int partBegin = begin;
        for (int place = begin; place <= end; place++) {
            if (place == end || text.bytes.get(place) == LINE_END) {
                widest = Math.max(widest, sums.between(CELLS, partBegin, place));
                partBegin = place + 1;
            }
        }
        return widest;
    }

    // ---- what the measures say of one byte

    private static boolean beginsLetter(int b) {
        return b < 128 || b > 191;
    }

    private static int cellsOf(int b) {
        if (!beginsLetter(b) || b < 32) {
            return 0;
        }
        return b > 223 ? 2 : 1;
    }

    /** Numbers in a room that is made once: what is outside of them reads as 0 and is never written. */
    private static final class Row {
        private final int[] numbers;
        private int size;

        Row(int room) {
            numbers = new int[Math.max(room, 0)];
        }

        int size() {
            return size;
        }

        int get(int i) {
            return i >= 0 && i < size && i < numbers.length ? numbers[i] : 0;
        }

        void set(int i, int number) {
            if (i >= 0 && i < size && i < numbers.length) {
                numbers[i] = number;
            }
        }

        void add(int number) {
            if (size >= 0 && size < numbers.length) {
                numbers[size] = number;
                size++;
            }
        }

        void empties() {
            size = 0;
        }

        void shortensTo(int n) {
            if (n >= 0 && n < size) {
                size = n;
            }
        }

        void copies(Row other) {
            size = 0;
            for (int i = 0; i < other.size(); i++) {
                add(other.get(i));
            }
        }

        /** Makes room for n numbers at i. */
        void opens(int i, int n) {
            if (i < 0 || i > size || n < 0 || n > numbers.length - size) {
                return;
            }
            for (int from = size - 1; from >= i; from--) {
                numbers[from + n] = numbers[from];
            }
            size += n;
        }

        /** Takes the n numbers at i away. */
        void closes(int i, int n) {
            if (i < 0 || i > size || n < 0 || n > size - i) {
                return;
            }
            for (int from = i + n; from < size; from++) {
                set(from - n, get(from));
            }
            size -= n;
        }

        long mixedInto(long h) {
            for (int i = 0; i < size; i++) {
                h = 31L * h + get(i);
            }
            return h;
        }
    }

    /** All that an image keeps and undo() brings back: bytes, sizes of chunks, marks, the reader. */
    private static final class Page {
        final Row bytes;
        final Row chunks;
        // By names: the place of each, or NONE.
        private final Row markPlaces = new Row(NAMES);
        int reader;

        Page(int room) {
            bytes = new Row(room);
            chunks = new Row(room);
            for (int i = 0; i < NAMES; i++) {
                markPlaces.add(NONE);
            }
        }

        void becomes(Page other) {
            bytes.copies(other.bytes);
            chunks.copies(other.chunks);
            markPlaces.copies(other.markPlaces);
            reader = other.reader;
        }

        void replaces(int place, int n, Row with) {
            takesOut(place, n);
            putsIn(place, with);
        }

        private void takesOut(int place, int n) {
            if (n <= 0) {
                return;
            }
            bytes.closes(place, n);
            shrinksChunks(place, n);
            joinsChunks(place);
            for (int i = 0; i < NAMES; i++) {
                markPlaces.set(i, placeAfterTaking(markPlaces.get(i), place, n));
            }
            reader = placeAfterTaking(reader, place, n);
        }

        private void putsIn(int place, Row with) {
            int n = with.size();
            if (n == 0) {
                return;
            }
            bytes.opens(place, n);
            for (int i = 0; i < n; i++) {
                bytes.set(place + i, with.get(i));
            }
            growsChunk(place, n);
            for (int i = 0; i < NAMES; i++) {
                markPlaces.set(i, placeAfterPutting(markPlaces.get(i), place, n));
            }
            reader = placeAfterPutting(reader, place, n);
        }

        // NONE is below every place, so that a name without a mark stays without one.
        private static int placeAfterTaking(int p, int place, int n) {
            return p <= place ? p : Math.max(place, p - n);
        }

        private static int placeAfterPutting(int p, int place, int n) {
            return p <= place ? p : p + n;
        }

        private void shrinksChunks(int place, int n) {
            int begin = 0;
            int left = 0;
            for (int k = 0; k < chunks.size(); k++) {
                int size = chunks.get(k);
                int taken = Math.min(begin + size, place + n) - Math.max(begin, place);
                int stays = size - Math.max(taken, 0);
                if (stays > 0) {
                    chunks.set(left, stays);
                    left++;
                }
                begin += size;
            }
            chunks.shortensTo(left);
        }

        private void joinsChunks(int place) {
            int k = chunkOfByteAhead(place);
            int together = chunks.get(k) + chunks.get(k + 1);
            if (k + 1 < chunks.size() && together <= CHUNK_LIMIT) {
                chunks.set(k, together);
                chunks.closes(k + 1, 1);
            }
        }

        private void growsChunk(int place, int n) {
            if (chunks.size() == 0) {
                chunks.add(0);
            }
            int k = chunkOfByteAhead(place);
            int size = chunks.get(k) + n;
            chunks.set(k, size);
            splitsChunk(k, size);
        }

        private void splitsChunk(int k, int size) {
            int parts = (size + CHUNK_LIMIT - 1) / CHUNK_LIMIT;
            if (parts < 2) {
                return;
            }
            int least = size / parts;
            int greater = size % parts;
            chunks.opens(k, parts - 1);
            for (int i = 0; i < parts; i++) {
                chunks.set(k + i, i < greater ? least + 1 : least);
            }
        }

        // The first chunk, if no byte is ahead.
        private int chunkOfByteAhead(int place) {
            int end = 0;
            for (int k = 0; k < chunks.size(); k++) {
                end += chunks.get(k);
                if (place <= end) {
                    return k;
                }
            }
            return 0;
        }

        int chunkBegin(int k) {
            int begin = 0;
            for (int i = 0; i < k && i < chunks.size(); i++) {
                begin += chunks.get(i);
            }
            return begin;
        }

        int markPlace(int name) {
            return markPlaces.get(name - FIRST_NAME);
        }

        void putMark(int name, int place) {
            markPlaces.set(name - FIRST_NAME, place);
        }

        int marksSet() {
            int set = 0;
            for (int i = 0; i < NAMES; i++) {
                if (markPlaces.get(i) != NONE) {
                    set++;
                }
            }
            return set;
        }

        /** The name of the nearest mark that is not ahead of a place, or NONE. */
        int markFrom(int place) {
            int name = NONE;
            int nearest = 0;
            for (int i = 0; i < NAMES; i++) {
                int p = markPlaces.get(i);
                if (p >= place && (name == NONE || p < nearest)) {
                    name = FIRST_NAME + i;
                    nearest = p;
                }
            }
            return name;
        }

        // The reader may be among the bytes of a letter, or at bytes that have no letter ahead: then the byte at it is
        // taken for the first one, so that reading always gets on.
        int readsLetter() {
            int first = bytes.get(reader);
            int behind = reader + 1;
            while (behind < bytes.size() && !beginsLetter(bytes.get(behind))) {
                behind++;
            }
            reader = behind;
            return first;
        }
    }

    /** The measures of every place, and the lines, of the text that was measured last (an empty one at first). */
    private static final class Sums {
        private final Row bytes = new Row(TEXT_LIMIT + 1);
        private final Row letters = new Row(TEXT_LIMIT + 1);
        private final Row ends = new Row(TEXT_LIMIT + 1);
        private final Row cells = new Row(TEXT_LIMIT + 1);
        private final Row lineBegins = new Row(TEXT_LIMIT + 1);
        private final Row linesByWidth = new Row(TEXT_LIMIT + 1);
        // Many edits may come between two questions for the widest lines: they are sorted when the first one comes.
        private boolean sorted;

        Sums() {
            startsOver();
        }

        private void startsOver() {
            bytes.empties();
            letters.empties();
            ends.empties();
            cells.empties();
            addsPlace(0, 0, 0, 0);
            lineBegins.empties();
            lineBegins.add(0);
            sorted = false;
        }

        private void addsPlace(int bytesAhead, int lettersAhead, int endsAhead, int cellsAhead) {
            bytes.add(bytesAhead);
            letters.add(lettersAhead);
            ends.add(endsAhead);
            cells.add(cellsAhead);
        }

        void measures(Row text) {
            startsOver();
            int lettersAhead = 0;
            int cellsAhead = 0;
            for (int i = 0; i < text.size(); i++) {
                int b = text.get(i);
                lettersAhead += beginsLetter(b) ? 1 : 0;
                cellsAhead += cellsOf(b);
                if (b == LINE_END) {
                    lineBegins.add(i + 1);
                }
                addsPlace(i + 1, lettersAhead, lineBegins.size() - 1, cellsAhead);
            }
        }

        private Row rowOf(int measure) {
            switch (measure) {
                case LETTERS:
                    return letters;
                case ENDS:
                    return ends;
                case CELLS:
                    return cells;
                default:
                    return bytes;
            }
        }

        int ahead(int measure, int place) {
            return rowOf(measure).get(place);
        }

        int between(int measure, int from, int to) {
            return ahead(measure, to) - ahead(measure, from);
        }

        private int lastPlace() {
            return bytes.size() - 1;
        }

        int total(int measure) {
            return ahead(measure, lastPlace());
        }

        int placeBy(int measure, int v) {
            if (measure == ENDS) {
                return lineBegin(v);
            }
            return farthest(measure, 0, lastPlace(), v);
        }

        /**
         * The last place up to a limit with no more than v of a measure behind from: what is behind it, if it is not
         * the limit, is the letter with which there are more.
         */
        int farthest(int measure, int from, int limit, int v) {
            int place = from;
            while (place < limit && between(measure, from, place + 1) <= v) {
                place++;
            }
            return place;
        }

        int lines() {
            return lineBegins.size();
        }

        int lineBegin(int k) {
            return lineBegins.get(k);
        }

        int lineEnd(int k) {
            return k + 1 < lines() ? lineBegin(k + 1) - 1 : lastPlace();
        }

        int lineWidth(int k) {
            return between(CELLS, lineBegin(k), lineEnd(k));
        }

        int lineByWidth(int k) {
            if (!sorted) {
                sortsLines();
                sorted = true;
            }
            return linesByWidth.get(k);
        }

        // A line goes ahead of narrower ones alone, so that of like ones the lower stays first.
        private void sortsLines() {
            linesByWidth.empties();
            for (int line = 0; line < lines(); line++) {
                int width = lineWidth(line);
                linesByWidth.add(line);
                int k = line;
                while (k > 0 && lineWidth(linesByWidth.get(k - 1)) < width) {
                    linesByWidth.set(k, linesByWidth.get(k - 1));
                    k--;
                }
                linesByWidth.set(k, line);
            }
        }
    }

    /** An edit that waits, with a tape of its own. */
    private static final class Edit {
        private final Row tape = new Row(TAPE_LIMIT);
        private int place;
        private int taken;

        void takesOver(int newPlace, int newTaken, Row newTape) {
            place = newPlace;
            taken = newTaken;
            tape.copies(newTape);
        }

        boolean beginsBehind(int otherPlace) {
            return place > otherPlace;
        }

        boolean meets(int otherPlace, int otherTaken) {
            return place <= otherPlace + otherTaken && otherPlace <= place + taken;
        }

        int bytesMore() {
            return tape.size() - taken;
        }
    }

    /** The edits that are staged, by their places. */
    private static final class Staged {
        private final Edit[] slots = new Edit[STAGED_LIMIT];
        private int size;

        Staged() {
            for (int i = 0; i < slots.length; i++) {
                slots[i] = new Edit();
            }
        }

        int size() {
            return size;
        }

        void empties() {
            size = 0;
        }

        private Edit slot(int i) {
            return i >= 0 && i < slots.length ? slots[i] : null;
        }

        boolean touches(int place, int n) {
            for (int i = 0; i < size; i++) {
                Edit edit = slot(i);
                if (edit != null && edit.meets(place, n)) {
                    return true;
                }
            }
            return false;
        }

        int growth() {
            int growth = 0;
            for (int i = 0; i < size; i++) {
                Edit edit = slot(i);
                growth += edit == null ? 0 : edit.bytesMore();
            }
            return growth;
        }

        void adds(int place, int n, Row tape) {
            Edit added = slot(size);
            if (added == null) {
                return;
            }
            added.takesOver(place, n, tape);
            int i = size;
            while (i > 0 && i < slots.length && isBehind(i - 1, place)) {
                slots[i] = slot(i - 1);
                i--;
            }
            if (i >= 0 && i < slots.length) {
                slots[i] = added;
            }
            size++;
        }

        private boolean isBehind(int i, int place) {
            Edit edit = slot(i);
            return edit != null && edit.beginsBehind(place);
        }

        /** From the last place to the first, so that no edit moves the place of one that is still to be done. */
        void changesAll(Page text) {
            for (int i = size - 1; i >= 0; i--) {
                Edit edit = slot(i);
                if (edit != null) {
                    text.replaces(edit.place, edit.taken, edit.tape);
                }
            }
        }
    }

    /** What the text was ahead of its latest changes: a ring, in which a new page takes the place of the oldest. */
    private static final class History {
        private final Page[] pages = new Page[UNDO_LIMIT];
        private int latest;
        private int size;

        History() {
            for (int i = 0; i < pages.length; i++) {
                pages[i] = new Page(TEXT_LIMIT);
            }
        }

        int size() {
            return size;
        }

        void forgets() {
            size = 0;
        }

        private Page latestPage() {
            return latest >= 0 && latest < pages.length ? pages[latest] : null;
        }

        void remembers(Page text) {
            latest = latest + 1 < UNDO_LIMIT ? latest + 1 : 0;
            size = Math.min(size + 1, UNDO_LIMIT);
            Page page = latestPage();
            if (page != null) {
                page.becomes(text);
            }
        }

        void restores(Page text) {
            Page page = latestPage();
            if (size == 0 || page == null) {
                return;
            }
            text.becomes(page);
            latest = latest > 0 ? latest - 1 : UNDO_LIMIT - 1;
            size--;
        }
    }
}
