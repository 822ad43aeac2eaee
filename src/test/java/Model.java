import java.util.ArrayList;
import java.util.List;
import java.util.TreeMap;

/**
 * The document once more, in its plainest words and by the Java library: no sums, nothing kept that could be told from
 * the bytes, every change made on copies. The class is compared with it.
 */
final class Model {
    static final int BAD = -1, STATE = -2, FULL = -3, NONE = -9;

    /** What an image keeps. */
    record Image(List<List<Integer>> chunks, TreeMap<Integer, Integer> marks, int reader) {
        Image copy() {
            List<List<Integer>> copies = new ArrayList<>();
            for (List<Integer> chunk : chunks) {
                copies.add(new ArrayList<>(chunk));
            }
            return new Image(copies, new TreeMap<>(marks), reader);
        }
    }

    record Edit(int place, int n, List<Integer> tape) {
    }

    private Image now = new Image(new ArrayList<>(), new TreeMap<>(), 0);
    private List<Integer> tape = new ArrayList<>();
    private final List<Edit> staged = new ArrayList<>();
    private final List<Image> undone = new ArrayList<>();
    private final Image[] images = new Image[2];

    private static List<Integer> flat(Image image) {
        List<Integer> bytes = new ArrayList<>();
        image.chunks().forEach(bytes::addAll);
        return bytes;
    }

    private List<Integer> text() {
        return flat(now);
    }

    private static boolean letter(int b) {
        return !(b >= 128 && b <= 191);
    }

    private static int measure(List<Integer> bytes, int measure) {
        int sum = 0;
        for (int b : bytes) {
            switch (measure) {
                case 0 -> sum += 1;
                case 1 -> sum += letter(b) ? 1 : 0;
                case 2 -> sum += b == 10 ? 1 : 0;
                default -> sum += !letter(b) ? 0 : b > 223 ? 2 : b < 32 ? 0 : 1;
            }
        }
        return sum;
    }

    private static List<List<Integer>> parts(List<Integer> bytes) {
        List<List<Integer>> parts = new ArrayList<>();
        parts.add(new ArrayList<>());
        for (int b : bytes) {
            if (b == 10) {
                parts.add(new ArrayList<>());
            } else {
                parts.get(parts.size() - 1).add(b);
            }
        }
        return parts;
    }

    private int lineBegin(int k) {
        int begin = 0;
        for (int i = 0; i < k; i++) {
            begin += parts(text()).get(i).size() + 1;
        }
        return begin;
    }

    // The chunk that has the byte at an index.
    private static int chunkWith(Image image, int index) {
        int seen = 0;
        for (int k = 0; k < image.chunks().size(); k++) {
            seen += image.chunks().get(k).size();
            if (index < seen) {
                return k;
            }
        }
        return -1;
    }

    private static Image takenOut(Image image, int place, int n) {
        if (n == 0) {
            return image;
        }
        Image out = image.copy();
        for (int i = 0; i < n; i++) {
            int k = chunkWith(out, place);
            int begin = 0;
            for (int j = 0; j < k; j++) {
                begin += out.chunks().get(j).size();
            }
            out.chunks().get(k).remove(place - begin);
            if (out.chunks().get(k).isEmpty()) {
                out.chunks().remove(k);
            }
        }
        int k = place == 0 ? 0 : chunkWith(out, place - 1);
        if (k + 1 < out.chunks().size() && out.chunks().get(k).size() + out.chunks().get(k + 1).size() <= 8) {
            out.chunks().get(k).addAll(out.chunks().remove(k + 1));
        }
        out.marks().replaceAll((name, p) -> taken(p, place, n));
        return new Image(out.chunks(), out.marks(), taken(out.reader(), place, n));
    }

    private static int taken(int p, int place, int n) {
        if (p < place) {
            return p;
        }
        return p <= place + n ? place : p - n;
    }

    private static Image putIn(Image image, int place, List<Integer> bytes) {
        int n = bytes.size();
        if (n == 0) {
            return image;
        }
        Image in = image.copy();
        if (in.chunks().isEmpty()) {
            in.chunks().add(new ArrayList<>());
        }
        int k = place == 0 ? 0 : chunkWith(in, place - 1);
        int begin = 0;
        for (int j = 0; j < k; j++) {
            begin += in.chunks().get(j).size();
        }
        List<Integer> whole = in.chunks().remove(k);
        whole.addAll(place - begin, bytes);
        int parts = 1;
        while (parts * 8 < whole.size()) {
            parts++;
        }
        for (int left = parts; left > 0; left--) {
            int size = 0;
            while (size * left < whole.size()) {
                size++;
            }
            in.chunks().add(k + parts - left, new ArrayList<>(whole.subList(0, size)));
            whole = whole.subList(size, whole.size());
        }
        in.marks().replaceAll((name, p) -> p > place ? p + n : p);
        return new Image(in.chunks(), in.marks(), in.reader() > place ? in.reader() + n : in.reader());
    }

    private void becomes(Image image) {
        undone.add(now.copy());
        if (undone.size() > 8) {
            undone.remove(0);
        }
        now = image;
    }

    private boolean place(int place) {
        return 0 <= place && place <= text().size();
    }

    private boolean stretch(int place, int n) {
        return place(place) && n >= 0 && (long) place + n <= text().size();
    }

    private static boolean name(int name) {
        return 'a' <= name && name <= 'z';
    }

    int type(int b) {
        if (b < 0 || b > 255) {
            return BAD;
        }
        if (tape.size() == 24) {
            return FULL;
        }
        tape.add(b);
        return tape.size();
    }

    int clear() {
        int had = tape.size();
        tape = new ArrayList<>();
        return had;
    }

    int edits(int place, int n) {
        if (!stretch(place, n)) {
            return BAD;
        }
        if (!staged.isEmpty()) {
            return STATE;
        }
        if (text().size() - n + tape.size() > 120) {
            return FULL;
        }
        becomes(putIn(takenOut(now, place, n), place, tape));
        clear();
        return text().size();
    }

    int stages(int place, int n) {
        if (!stretch(place, n)) {
            return BAD;
        }
        for (Edit edit : staged) {
            for (int p = edit.place(); p <= edit.place() + edit.n(); p++) {
                if (place <= p && p <= place + n) {
                    return STATE;
                }
            }
        }
        if (staged.size() == 4) {
            return FULL;
        }
        staged.add(new Edit(place, n, tape));
        clear();
        return staged.size();
    }

    int does() {
        if (staged.isEmpty()) {
            return STATE;
        }
        List<Edit> order = new ArrayList<>(staged);
        order.sort((a, b) -> b.place() - a.place());
        Image after = now;
        for (Edit edit : order) {
            after = putIn(takenOut(after, edit.place(), edit.n()), edit.place(), edit.tape());
        }
        if (flat(after).size() > 120) {
            return FULL;
        }
        becomes(after);
        drops();
        return text().size();
    }

    int drops() {
        int were = staged.size();
        staged.clear();
        return were;
    }

    int undo() {
        if (undone.isEmpty() || !staged.isEmpty()) {
            return STATE;
        }
        now = undone.remove(undone.size() - 1);
        return undone.size();
    }

    int at(int place) {
        return place >= 0 && place < text().size() ? text().get(place) : BAD;
    }

    int tells(int from, int v, int to) {
        if (from < 0 || from > 3 || to < 0 || to > 3 || v < 0 || v > measure(text(), from)) {
            return BAD;
        }
        return measure(text().subList(0, placeBy(text(), from, v)), to);
    }

    private int placeBy(List<Integer> bytes, int from, int v) {
        if (from == 0) {
            return v;
        }
        if (from == 2) {
            return lineBegin(v);
        }
        for (int p = 0; p < bytes.size(); p++) {
            if (letter(bytes.get(p)) && measure(bytes.subList(0, p + 1), from) > v) {
                return p;
            }
        }
        return bytes.size();
    }

    int spot(int place, int what) {
        if (!place(place) || what < 0 || what > 3) {
            return BAD;
        }
        int line = measure(text().subList(0, place), 2);
        if (what == 0) {
            return line;
        }
        return measure(text().subList(lineBegin(line), place), new int[] {0, 0, 1, 3}[what]);
    }

    int column(int line, int cells) {
        if (line < 0 || line >= parts(text()).size() || cells < 0) {
            return BAD;
        }
        return lineBegin(line) + placeBy(parts(text()).get(line), 3, cells);
    }

    int line(int k, int what) {
        if (k < 0 || k >= parts(text()).size() || what < 0 || what > 3) {
            return BAD;
        }
        return what == 0 ? lineBegin(k) : measure(parts(text()).get(k), new int[] {0, 0, 1, 3}[what]);
    }

    int wide(int k) {
        List<List<Integer>> lines = parts(text());
        if (k < 0 || k >= lines.size()) {
            return BAD;
        }
        List<Integer> order = new ArrayList<>();
        for (int i = 0; i < lines.size(); i++) {
            order.add(i);
        }
        order.sort((a, b) -> measure(lines.get(b), 3) - measure(lines.get(a), 3));
        return order.get(k);
    }

    private static int widest(List<Integer> bytes) {
        int most = 0;
        for (List<Integer> part : parts(bytes)) {
            most = Math.max(most, measure(part, 3));
        }
        return most;
    }

    int chunk(int k, int what) {
        if (k < 0 || k >= now.chunks().size() || what < 0 || what > 4) {
            return BAD;
        }
        List<Integer> chunk = now.chunks().get(k);
        return what == 4 ? widest(chunk) : measure(chunk, what);
    }

    int marks(int name, int place) {
        if (!name(name) || !place(place)) {
            return BAD;
        }
        if (!now.marks().containsKey(name) && now.marks().size() == 8) {
            return FULL;
        }
        Integer was = now.marks().put(name, place);
        return was == null ? NONE : was;
    }

    int lifts(int name) {
        if (!name(name)) {
            return BAD;
        }
        Integer was = now.marks().remove(name);
        return was == null ? STATE : was;
    }

    int mark(int name) {
        return name(name) ? now.marks().getOrDefault(name, NONE) : BAD;
    }

    int next(int place) {
        if (!place(place)) {
            return BAD;
        }
        for (int p = place; p <= text().size(); p++) {
            for (int name : now.marks().keySet()) {
                if (now.marks().get(name) == p) {
                    return name;
                }
            }
        }
        return NONE;
    }

    int seeks(int place) {
        if (!place(place)) {
            return BAD;
        }
        int was = now.reader();
        now = new Image(now.chunks(), now.marks(), place);
        return was;
    }

    int reads() {
        List<Integer> bytes = text();
        if (now.reader() == bytes.size()) {
            return NONE;
        }
        int was = now.reader();
        int behind = was + 1;
        while (behind < bytes.size() && !letter(bytes.get(behind))) {
            behind++;
        }
        seeks(behind);
        return bytes.get(was);
    }

    int keep(int image) {
        if (image != 0 && image != 1) {
            return BAD;
        }
        images[image] = now.copy();
        return text().size();
    }

    int back(int image) {
        if (image != 0 && image != 1) {
            return BAD;
        }
        if (images[image] == null) {
            return STATE;
        }
        now = images[image].copy();
        undone.clear();
        staged.clear();
        return text().size();
    }

    int count(int what) {
        return switch (what) {
            case 0, 1, 2, 3 -> measure(text(), what);
            case 4 -> parts(text()).size();
            case 5 -> widest(text());
            case 6 -> now.chunks().size();
            case 7 -> now.marks().size();
            case 8 -> now.reader();
            case 9 -> tape.size();
            case 10 -> staged.size();
            case 11 -> undone.size();
            default -> BAD;
        };
    }

    long digest() {
        List<Integer> values = new ArrayList<>(text());
        now.chunks().forEach(chunk -> values.add(chunk.size()));
        now.marks().forEach((name, place) -> values.addAll(List.of(name, place)));
        long h = 17;
        for (int v : values) {
            h = 31 * h + v;
        }
        return h;
    }
}
