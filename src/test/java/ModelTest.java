import java.util.Random;

/**
 * Runs of calls, the same ones each time, on the class and on the model: every answer must be the same. No object is
 * used for more than 512 calls, since the document says nothing of later ones.
 */
public final class ModelTest {
    private static final int MOST_CALLS = 512;
    // More than one step of a run may take.
    private static final int STEP = 40;
    // Few kinds of bytes, the edges of the document's ranges among them, so that runs of each kind come up.
    private static final int[] BYTES = {
        10, 10, 97, 98, 32, 31, 0, 127, 128, 150, 191, 192, 223, 224, 226, 255};
    private static final int[] ODD = {
        Integer.MIN_VALUE, -10, -9, -2, -1, 120, 121, 122, 256, Integer.MAX_VALUE - 1, Integer.MAX_VALUE};

    private final Random random;
    private final ChunkView view = new ChunkView();
    private final Model model = new Model();
    private final String run;
    private final int style;
    private String latest = "";
    private int calls;

    private ModelTest(int seed) {
        random = new Random(seed);
        style = seed % 5;
        run = "run " + seed;
    }

    private int below(int n) {
        return random.nextInt(n);
    }

    private int odd(int usual) {
        return below(40) == 0 ? ODD[below(ODD.length)] : usual;
    }

    private int place() {
        return odd(below(model.count(0) + (below(20) == 0 ? 3 : 1)));
    }

    private int name() {
        return odd('a' - (below(30) == 0 ? 1 : 0) + below(below(10) == 0 ? 27 : 11));
    }

    private int length(int place) {
        int left = Math.max(0, model.count(0) - Math.max(0, Math.min(place, 120)));
        int most = below(4) == 0 ? left : Math.min(left, style == 1 ? 2 : 9);
        return odd(below(most + 1) + (below(30) == 0 ? 1 : 0));
    }

    private void same(String call, long got, long want) {
        calls++;
        Due.due(run + ": " + call + " behind " + latest, got, want);
        latest = call;
    }

    private void types(int times) {
        for (int i = 0; i < times; i++) {
            int b = odd(below(6) == 0 ? below(256) : BYTES[below(BYTES.length)]);
            same("type(" + b + ")", view.type(b), model.type(b));
        }
    }

    private void changes() {
        int place = place();
        int n = length(place);
        switch (below(12)) {
            case 0, 1, 2, 3 -> types(1 + below(style == 2 ? 26 : 9));
            case 4 -> same("clear()", view.clear(), model.clear());
            case 5, 6, 7 -> same("edits(" + place + ", " + n + ")", view.edits(place, n), model.edits(place, n));
            case 8, 9 -> same("stages(" + place + ", " + n + ")", view.stages(place, n), model.stages(place, n));
            case 10 -> same("does()", view.does(), model.does());
            default -> {
                if (below(3) == 0) {
                    same("drops()", view.drops(), model.drops());
                } else {
                    same("undo()", view.undo(), model.undo());
                }
            }
        }
    }

    private void asksPlaces() {
        int place = place();
        int what = odd(below(5));
        int k = odd(below(model.count(4) + 1));
        int to = odd(below(4));
        int cells = odd(below(12));
        int c = odd(below(model.count(6) + 1));
        int from = odd(below(4));
        int v = odd(below(Math.max(0, model.count(Math.max(0, Math.min(from, 3)))) + 2));
        same("at(" + place + ")", view.at(place), model.at(place));
        same("tells(" + from + ", " + v + ", " + to + ")", view.tells(from, v, to), model.tells(from, v, to));
        same("spot(" + place + ", " + what + ")", view.spot(place, what), model.spot(place, what));
        same("column(" + k + ", " + cells + ")", view.column(k, cells), model.column(k, cells));
        same("line(" + k + ", " + what + ")", view.line(k, what), model.line(k, what));
        same("wide(" + k + ")", view.wide(k), model.wide(k));
        same("chunk(" + c + ", " + what + ")", view.chunk(c, what), model.chunk(c, what));
    }

    private void marksAndReads() {
        int place = place();
        int name = name();
        switch (below(8)) {
            case 0, 1 -> same("marks(" + name + ", " + place + ")", view.marks(name, place), model.marks(name, place));
            case 2 -> same("lifts(" + name + ")", view.lifts(name), model.lifts(name));
            case 3 -> same("mark(" + name + ")", view.mark(name), model.mark(name));
            case 4 -> same("next(" + place + ")", view.next(place), model.next(place));
            case 5 -> same("seeks(" + place + ")", view.seeks(place), model.seeks(place));
            default -> same("reads()", view.reads(), model.reads());
        }
    }

    private void images() {
        int image = odd(below(3));
        if (below(4) == 0) {
            same("back(" + image + ")", view.back(image), model.back(image));
        } else {
            same("keep(" + image + ")", view.keep(image), model.keep(image));
        }
    }

    // The digest tells bytes, chunks and marks.
    private void asksAfterAll() {
        int what = below(12);
        same("digest()", view.digest(), model.digest());
        same("count(8)", view.count(8), model.count(8));
        same("count(" + what + ")", view.count(what), model.count(what));
    }

    // To a text near its limit, so that FULL comes up too.
    private void fills() {
        for (int i = 0; i < 5; i++) {
            types(24);
            same("edits(0, 0)", view.edits(0, 0), model.edits(0, 0));
        }
    }

    // As many as there may be, so that there is no room for one more.
    private void marksMany() {
        types(24);
        same("edits(0, 0)", view.edits(0, 0), model.edits(0, 0));
        for (int name = 'b'; name < 'j'; name++) {
            int place = below(model.count(0) + 1);
            same("marks(" + name + ", " + place + ")", view.marks(name, place), model.marks(name, place));
        }
    }

    private ModelTest goes(int upTo) {
        if (style == 3) {
            fills();
        }
        if (style == 4) {
            marksMany();
        }
        while (calls + STEP < upTo && Due.wrong() < 20) {
            int kind = below(20);
            if (kind < 11) {
                changes();
            } else if (kind < 14) {
                asksPlaces();
            } else if (kind < 19) {
                marksAndReads();
            } else {
                images();
            }
            asksAfterAll();
        }
        return this;
    }

    private boolean mayAsk() {
        return calls < MOST_CALLS;
    }

    private void asksAllTells(int from) {
        for (int v = -1; v <= model.count(from) + 1; v++) {
            for (int to = 0; to < 4 && mayAsk(); to++) {
                same("tells(" + from + ", " + v + ", " + to + ")", view.tells(from, v, to), model.tells(from, v, to));
            }
        }
    }

    private void asksAllSpots() {
        for (int place = -1; place <= model.count(0) + 1; place++) {
            for (int what = -1; what < 5 && mayAsk(); what++) {
                same("spot(" + place + ", " + what + ")", view.spot(place, what), model.spot(place, what));
            }
        }
    }

    private void asksAllColumns() {
        for (int k = -1; k <= model.count(4); k++) {
            for (int cells = -1; cells < 14 && mayAsk(); cells++) {
                same("column(" + k + ", " + cells + ")", view.column(k, cells), model.column(k, cells));
            }
        }
    }

    private void asksAllLines() {
        for (int k = -1; k <= model.count(4); k++) {
            for (int what = -1; what < 5 && mayAsk(); what++) {
                same("line(" + k + ", " + what + ")", view.line(k, what), model.line(k, what));
            }
        }
    }

    private void asksAllWideAndChunks() {
        for (int k = -1; k <= model.count(4) && mayAsk(); k++) {
            same("wide(" + k + ")", view.wide(k), model.wide(k));
        }
        for (int k = -1; k <= model.count(6); k++) {
            for (int what = -1; what < 6 && mayAsk(); what++) {
                same("chunk(" + k + ", " + what + ")", view.chunk(k, what), model.chunk(k, what));
            }
        }
    }

    // Every question about places on one text: the same run is made once for each kind of question.
    private static void asksEverything(int seed) {
        for (int from = 0; from < 4; from++) {
            new ModelTest(seed).goes(200).asksAllTells(from);
        }
        new ModelTest(seed).goes(200).asksAllSpots();
        new ModelTest(seed).goes(200).asksAllColumns();
        new ModelTest(seed).goes(200).asksAllLines();
        new ModelTest(seed).goes(200).asksAllWideAndChunks();
    }

    public static void main(String[] args) {
        for (int seed = 0; seed < 2000 && Due.wrong() < 20; seed++) {
            new ModelTest(seed).goes(MOST_CALLS);
        }
        for (int seed = 10000; seed < 10100 && Due.wrong() < 20; seed++) {
            asksEverything(seed);
        }
        Due.ends();
    }
}
