import java.util.Random;

/** Long runs of calls, the same ones each time, on the class and on the model: every answer must be the same. */
public final class ModelTest {
    // Few kinds of bytes, the edges of the document's ranges among them, so that runs of each kind come up.
    private static final int[] BYTES = {
        10, 10, 97, 98, 32, 31, 0, 127, 128, 150, 191, 192, 223, 224, 226, 255};
    private static final int[] ODD = {
        Integer.MIN_VALUE, -10, -9, -2, -1, 120, 121, 122, 256, Integer.MAX_VALUE - 1, Integer.MAX_VALUE};

    private final Random random;
    private final ChunkView view = new ChunkView();
    private final Model model = new Model();
    private final String run;
    private final int style;
    private String latest = "";

    private ModelTest(int seed) {
        random = new Random(seed);
        style = seed % 5;
        run = "run " + seed;
    }

    private int below(int n) {
        return random.nextInt(n);
    }

    private int odd(int usual) {
        return below(40) == 0 ? ODD[below(ODD.length)] : usual;
    }

    private int place() {
        return odd(below(model.count(0) + (below(20) == 0 ? 3 : 1)));
    }

    private int name() {
        return odd('a' - (below(30) == 0 ? 1 : 0) + below(below(10) == 0 ? 27 : 11));
    }

    private int length(int place) {
        int left = Math.max(0, model.count(0) - Math.max(0, Math.min(place, 120)));
        int most = below(4) == 0 ? left : Math.min(left, style == 1 ? 2 : 9);
        return odd(below(most + 1) + (below(30) == 0 ? 1 : 0));
    }

    private void same(String call, long got, long want) {
        latest = call;
        Due.due(run + ": " + call, got, want);
    }

    private void types(int times) {
        for (int i = 0; i < times; i++) {
            int b = odd(below(6) == 0 ? below(256) : BYTES[below(BYTES.length)]);
            same("type(" + b + ")", view.type(b), model.type(b));
        }
    }

    private void changes() {
        int place = place();
        int n = length(place);
        switch (below(12)) {
            case 0, 1, 2, 3 -> types(1 + below(style == 2 ? 26 : 9));
            case 4 -> same("clear()", view.clear(), model.clear());
            case 5, 6, 7 -> same("edits(" + place + ", " + n + ")", view.edits(place, n), model.edits(place, n));
            case 8, 9 -> same("stages(" + place + ", " + n + ")", view.stages(place, n), model.stages(place, n));
            case 10 -> same("does()", view.does(), model.does());
            default -> {
                if (below(3) == 0) {
                    same("drops()", view.drops(), model.drops());
                } else {
                    same("undo()", view.undo(), model.undo());
                }
            }
        }
    }

    private void asksPlaces() {
        int place = place();
        int what = odd(below(5));
        int k = odd(below(model.count(4) + 1));
        int to = odd(below(4));
        int cells = odd(below(12));
        int c = odd(below(model.count(6) + 1));
        int from = odd(below(4));
        int v = odd(below(Math.max(0, model.count(Math.max(0, Math.min(from, 3)))) + 2));
        same("at(" + place + ")", view.at(place), model.at(place));
        same("tells(" + from + ", " + v + ", " + to + ")", view.tells(from, v, to), model.tells(from, v, to));
        same("spot(" + place + ", " + what + ")", view.spot(place, what), model.spot(place, what));
        same("column(" + k + ", " + cells + ")", view.column(k, cells), model.column(k, cells));
        same("line(" + k + ", " + what + ")", view.line(k, what), model.line(k, what));
        same("wide(" + k + ")", view.wide(k), model.wide(k));
        same("chunk(" + c + ", " + what + ")", view.chunk(c, what), model.chunk(c, what));
    }

    private void marksAndReads() {
        int place = place();
        int name = name();
        switch (below(8)) {
            case 0, 1 -> same("marks(" + name + ", " + place + ")", view.marks(name, place), model.marks(name, place));
            case 2 -> same("lifts(" + name + ")", view.lifts(name), model.lifts(name));
            case 3 -> same("mark(" + name + ")", view.mark(name), model.mark(name));
            case 4 -> same("next(" + place + ")", view.next(place), model.next(place));
            case 5 -> same("seeks(" + place + ")", view.seeks(place), model.seeks(place));
            default -> same("reads()", view.reads(), model.reads());
        }
    }

    private void images() {
        int image = odd(below(3));
        if (below(3) == 0) {
            same("back(" + image + ")", view.back(image), model.back(image));
        } else {
            same("keep(" + image + ")", view.keep(image), model.keep(image));
        }
    }

    private void countsAll() {
        String behind = " behind " + latest;
        for (int what = -1; what <= 12; what++) {
            Due.due(run + ": count(" + what + ")" + behind, view.count(what), model.count(what));
        }
        Due.due(run + ": digest()" + behind, view.digest(), model.digest());
        for (int k = 0; k < model.count(6); k++) {
            Due.due(run + ": chunk(" + k + ", 0)" + behind, view.chunk(k, 0), model.chunk(k, 0));
        }
    }

    // To a text near its limit, so that FULL comes up too.
    private void fills() {
        for (int i = 0; i < 5; i++) {
            types(24);
            same("edits(0, 0)", view.edits(0, 0), model.edits(0, 0));
        }
    }

    private void goes(int steps) {
        if (style == 3) {
            fills();
        }
        for (int i = 0; i < steps && Due.wrong() < 20; i++) {
            int kind = below(20);
            if (kind < 11) {
                changes();
            } else if (kind < 14) {
                asksPlaces();
            } else if (kind < 19) {
                marksAndReads();
            } else if (below(3) == 0) {
                images();
            }
            countsAll();
        }
    }

    // Every question about places, on one text.
    private void asksEverything() {
        for (int from = 0; from < 4; from++) {
            for (int v = -1; v <= model.count(from) + 1; v++) {
                for (int to = 0; to < 4; to++) {
                    same("tells(" + from + ", " + v + ", " + to + ")",
                        view.tells(from, v, to), model.tells(from, v, to));
                }
            }
        }
        for (int k = -1; k <= model.count(4); k++) {
            same("wide(" + k + ")", view.wide(k), model.wide(k));
            for (int cells = -1; cells < 14; cells++) {
                same("column(" + k + ", " + cells + ")", view.column(k, cells), model.column(k, cells));
            }
            for (int what = -1; what < 5; what++) {
                same("line(" + k + ", " + what + ")", view.line(k, what), model.line(k, what));
            }
        }
        for (int place = -1; place <= model.count(0) + 1; place++) {
            for (int what = -1; what < 5; what++) {
                same("spot(" + place + ", " + what + ")", view.spot(place, what), model.spot(place, what));
            }
        }
        for (int k = -1; k <= model.count(6); k++) {
            for (int what = -1; what < 6; what++) {
                same("chunk(" + k + ", " + what + ")", view.chunk(k, what), model.chunk(k, what));
            }
        }
    }

    public static void main(String[] args) {
        for (int seed = 0; seed < 400 && Due.wrong() < 20; seed++) {
            new ModelTest(seed).goes(120);
        }
        for (int seed = 1000; seed < 1030 && Due.wrong() < 20; seed++) {
            ModelTest test = new ModelTest(seed);
            test.goes(60);
            test.asksEverything();
        }
        Due.ends();
    }
}
