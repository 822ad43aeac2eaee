import java.util.List;
import java.util.function.Supplier;

/**
 * The bounds of each call, by promises: the last number that is taken and the first that is refused on each side, what
 * refuses it in which state, and that nothing changes behind a refused call. "Refused, and nothing changes, the first
 * of these: BAD (a number is not as told, or there is no such thing), STATE (as told), FULL."
 */
public final class RefusedTest {
    private static final int BAD = ChunkView.BAD, STATE = ChunkView.STATE, FULL = ChunkView.FULL;
    private static final int NONE = ChunkView.NONE;
    private static final int LEAST = Integer.MIN_VALUE, MOST = Integer.MAX_VALUE;
    // What is BAD is so in each of them, whatever else would refuse the call.
    private static final List<Supplier<ChunkView>> STATES =
        List.of(ChunkView::new, Made::rich, Made::richStaged, Made::crowded);

    private RefusedTest() {
    }

    private static void due(String call, long got, long want) {
        Due.due(call, got, want);
    }

    private static void types(ChunkView x, String bytes) {
        Made.types(x, bytes);
    }

    private static ChunkView with(String text) {
        return Made.with(text);
    }

    /** Refused in every state, and nothing changes. */
    private static void bad(String name, Due.Call call) {
        for (Supplier<ChunkView> made : STATES) {
            Due.leavesAll(name, made, call, BAD);
        }
    }

    private static void refused(String name, Supplier<ChunkView> made, Due.Call call, int want) {
        Due.leavesAll(name, made, call, want);
    }

    /** Numbers below a first one and above a last one. */
    private interface OfOne {
        long on(ChunkView x, int number);
    }

    private static void badOutside(String name, int first, int last, OfOne call) {
        for (int number : new int[] {first - 1, last + 1, LEAST, MOST, LEAST + first, MOST - 1}) {
            bad(name + " with " + number, x -> call.on(x, number));
        }
    }

    /** The same with a last one that the object has to tell. */
    private static void badOutside(String name, Due.Call last, OfOne call) {
        bad(name + " with -1", x -> call.on(x, -1));
        bad(name + " with one more", x -> call.on(x, (int) last.on(x) + 1));
        bad(name + " with least", x -> call.on(x, LEAST));
        bad(name + " with most", x -> call.on(x, MOST));
    }

    private static void isTaken(String name, long got) {
        Due.holds(name + " is taken", got != BAD && got != STATE && got != FULL);
    }

    // ---- what changes

    private static void newObject() {
        Due.says("Promise 1: No bytes, no MARKS");
        ChunkView x = new ChunkView();
        int[] counts = {0, 0, 0, 0, 1, 0, 0, 0, 0, 0, 0, 0};
        for (int what = 0; what < 12; what++) {
            due("count(" + what + ")", x.count(what), counts[what]);
        }
        for (int name = 'a'; name <= 'z'; name++) {
            due("mark(" + name + ")", x.mark(name), NONE);
            due("lifts(" + name + ")", x.lifts(name), STATE);
        }
        due("next(0)", x.next(0), NONE);
        due("reads()", x.reads(), NONE);
        due("digest()", x.digest(), 17);
    }

    private static void typeBad() {
        Due.says("Promise 2: A byte (0 .. 255) comes to THE TAPE: how many it has. BAD");
        ChunkView x = new ChunkView();
        due("type(0)", x.type(0), 1);
        due("type(255)", x.type(255), 2);
        badOutside("type", 0, 255, (y, b) -> y.type(b));
        bad("type with 65536 + 65", y -> y.type(65536 + 65));
    }

    private static void typeFull() {
        Due.says("Promise 2: .. FULL");
        Supplier<ChunkView> made = () -> {
            ChunkView x = with("text");
            types(x, "a".repeat(23));
            return x;
        };
        due("type, a 24th", made.get().type(98), 24);
        refused("type, a 25th", Made::crowded, x -> x.type(0), FULL);
        refused("type, a 25th", Made::crowded, x -> x.type(255), FULL);
        refused("type of no byte: BAD ahead of FULL", Made::crowded, x -> x.type(256), BAD);
    }

    private static void clearOfNothingAndAll() {
        Due.says("Promise 3: THE TAPE is empty: how many it had");
        due("clear() of 24", Made.crowded().clear(), 24);
        due("clear() of 2", Made.rich().clear(), 2);
        Due.leavesAll("clear() of none", () -> with("text"), x -> x.clear(), 0);
        Due.leavesAll("clear() of none, no bytes", ChunkView::new, x -> x.clear(), 0);
        ChunkView x = Made.crowded();
        x.clear();
        due("count(9)", x.count(9), 0);
        due("clear() again", x.clear(), 0);
        due("what is staged stays", x.count(10), 4);
        due("it has tapes of its own", x.does(), 110);
        due("room again", x.type(7), 1);
    }

    private static void editsBad() {
        Due.says("Promise 4: AN EDIT at a PLACE, n bytes TAKEN OUT. BAD");
        badOutside("edits(.., 0)", x -> x.count(0), (x, place) -> x.edits(place, 0));
        badOutside("edits(0, ..)", x -> x.count(0), (x, n) -> x.edits(0, n));
        bad("edits(end, 1)", x -> x.edits(x.count(0), 1));
        bad("edits(end, most)", x -> x.edits(x.count(0), MOST));
        bad("edits(1, most), no sum", x -> x.edits(1, MOST));
        bad("edits(most, most), no sum", x -> x.edits(MOST, MOST));
        bad("edits(most, least), no sum", x -> x.edits(MOST, LEAST));
        bad("edits(end + 1, -1), a sum that would do", x -> x.edits(x.count(0) + 1, -1));
        refused("edits(16, 2) of 17", Made::rich, x -> x.edits(16, 2), BAD);
        due("edits(16, 1) of 17", Made.rich().edits(16, 1), 18);
        due("edits(17, 0) of 17", Made.rich().edits(17, 0), 19);
        due("edits(0, 17) of 17", Made.rich().edits(0, 17), 2);
        due("edits(0, 0) of none", new ChunkView().edits(0, 0), 0);
    }

    private static void editsState() {
        Due.says("Promise 4: .. STATE: something is STAGED");
        refused("edits(0, 0), two are staged", Made::richStaged, x -> x.edits(0, 0), STATE);
        refused("edits(17, 0), two are staged", Made::richStaged, x -> x.edits(17, 0), STATE);
        Supplier<ChunkView> one = () -> {
            ChunkView x = new ChunkView();
            x.stages(0, 0);
            return x;
        };
        refused("edits(0, 0), one that does nothing is staged", one, x -> x.edits(0, 0), STATE);
        refused("edits(0, 0): STATE ahead of FULL", Made::crowded, x -> x.edits(0, 0), STATE);
        refused("edits(121, 0): BAD ahead of both", Made::crowded, x -> x.edits(121, 0), BAD);
        ChunkView x = Made.richStaged();
        x.drops();
        due("edits(0, 0) behind drops()", x.edits(0, 0), 19);
        x = Made.richStaged();
        x.does();
        due("edits(0, 0) behind does()", x.edits(0, 0), 20);
    }

    private static ChunkView withTape(int bytes, int tape) {
        ChunkView x = with("x".repeat(bytes));
        types(x, "y".repeat(tape));
        return x;
    }

    private static void editsFull() {
        Due.says("Promise 4: .. FULL: more than 120");
        due("96 and 24", withTape(96, 24).edits(0, 0), 120);
        refused("97 and 24", () -> withTape(97, 24), x -> x.edits(0, 0), FULL);
        due("119 and 1", withTape(119, 1).edits(119, 0), 120);
        refused("120 and 1", () -> withTape(120, 1), x -> x.edits(120, 0), FULL);
        due("120 and 1, one out", withTape(120, 1).edits(60, 1), 120);
        refused("120 and 24, 23 out", () -> withTape(120, 24), x -> x.edits(60, 23), FULL);
        due("120 and 24, 24 out", withTape(120, 24).edits(60, 24), 120);
        due("120 and none", withTape(120, 0).edits(60, 0), 120);
        refused("120 and 24, 121 out: BAD ahead of FULL", () -> withTape(120, 24), x -> x.edits(0, 121), BAD);
    }

    private static void editsTape() {
        Due.says("Promise 4: .. THE TAPE is empty then: how many bytes THE TEXT has");
        ChunkView x = Made.rich();
        due("edits(0, 0)", x.edits(0, 0), 19);
        due("count(9)", x.count(9), 0);
        due("edits(0, 0) again", x.edits(0, 0), 19);
        due("all out, none in", x.edits(0, 19), 0);
    }

    private static void stagesBad() {
        Due.says("Promise 5: AN EDIT is STAGED with THE TAPE. BAD");
        badOutside("stages(.., 0)", x -> x.count(0), (x, place) -> x.stages(place, 0));
        badOutside("stages(0, ..)", x -> x.count(0), (x, n) -> x.stages(0, n));
        bad("stages(end, 1)", x -> x.stages(x.count(0), 1));
        bad("stages(end, most)", x -> x.stages(x.count(0), MOST));
        bad("stages(1, most), no sum", x -> x.stages(1, MOST));
        bad("stages(most, most), no sum", x -> x.stages(MOST, MOST));
        bad("stages(end + 1, -1), a sum that would do", x -> x.stages(x.count(0) + 1, -1));
        due("stages(17, 0) of 17", Made.rich().stages(17, 0), 1);
        due("stages(0, 17) of 17", Made.rich().stages(0, 17), 1);
        due("stages(16, 1) of 17", Made.rich().stages(16, 1), 1);
        refused("stages(16, 2) of 17", Made::rich, x -> x.stages(16, 2), BAD);
        due("stages(0, 0) of none", new ChunkView().stages(0, 0), 1);
    }

    private static void stagesState() {
        Due.says("Promise 5: .. STATE: it touches another one");
        // 4 .. 6 and 10 are staged.
        int[][] touching = {{4, 0}, {5, 0}, {6, 0}, {10, 0}, {3, 1}, {6, 1}, {9, 1}, {10, 7}, {0, 17}, {7, 3}};
        for (int[] t : touching) {
            refused("stages(" + t[0] + ", " + t[1] + ")", Made::richStaged, x -> x.stages(t[0], t[1]), STATE);
        }
        int[][] free = {{3, 0}, {7, 0}, {7, 2}, {9, 0}, {11, 0}, {11, 6}, {0, 3}, {17, 0}};
        for (int[] f : free) {
            due("stages(" + f[0] + ", " + f[1] + ")", Made.richStaged().stages(f[0], f[1]), 3);
        }
        // 0 .. 24, 30, 40 .. 50, 119 .. 120 are staged, four in all.
        for (int place : new int[] {0, 24, 30, 40, 50, 119, 120}) {
            refused("stages(" + place + ", 0): STATE ahead of FULL", Made::crowded, x -> x.stages(place, 0), STATE);
        }
        refused("stages(119, 2): BAD ahead of both", Made::crowded, x -> x.stages(119, 2), BAD);
    }

    private static void stagesFull() {
        Due.says("Promise 5: .. FULL");
        for (int place : new int[] {25, 29, 31, 39, 51, 118}) {
            refused("stages(" + place + ", 0), a fifth", Made::crowded, x -> x.stages(place, 0), FULL);
        }
        refused("stages(51, 67), a fifth", Made::crowded, x -> x.stages(51, 67), FULL);
        ChunkView x = Made.richStaged();
        due("a third", x.stages(0, 0), 3);
        due("a fourth", x.stages(17, 0), 4);
        due("a fifth", x.stages(12, 0), FULL);
        due("what there would be is not looked at", withTape(120, 24).stages(0, 0), 1);
    }

    private static void stagesTape() {
        Due.says("Promise 5: .. with THE TAPE, that is empty then: how many are");
        ChunkView x = Made.rich();
        due("stages(0, 0)", x.stages(0, 0), 1);
        due("count(9)", x.count(9), 0);
        due("count(10)", x.count(10), 1);
        due("count(0)", x.count(0), 17);
        types(x, "other");
        x.clear();
        due("does()", x.does(), 19);
        due("at(0)", x.at(0), 't');
        due("at(1)", x.at(1), 'p');
    }

    private static void doesState() {
        Due.says("Promise 6: DONE. STATE: nothing is");
        refused("does()", Made::rich, x -> x.does(), STATE);
        refused("does(), no bytes", ChunkView::new, x -> x.does(), STATE);
        refused("does(), a full text and tape", () -> withTape(120, 24), x -> x.does(), STATE);
        ChunkView x = new ChunkView();
        x.stages(0, 0);
        due("does() of one that does nothing", x.does(), 0);
        due("does() again", x.does(), STATE);
    }

    // Two staged edits that put 2 and 1 bytes in.
    private static ChunkView stagedThree(int bytes) {
        ChunkView x = with("x".repeat(bytes));
        types(x, "ab");
        x.stages(10, 0);
        types(x, "c");
        x.stages(50, 0);
        types(x, "tape");
        return x;
    }

    private static void doesFull() {
        Due.says("Promise 6: .. FULL: there would be more than 120 (all stays STAGED)");
        due("117 and 3", stagedThree(117).does(), 120);
        refused("118 and 3", () -> stagedThree(118), x -> x.does(), FULL);
        ChunkView x = stagedThree(118);
        due("does()", x.does(), FULL);
        due("count(10)", x.count(10), 2);
        x.clear();
        due("stages(90, 1)", x.stages(90, 1), 3);
        due("does() with one out", x.does(), 120);
        Due.text("does() with one out", x,
            "x".repeat(10) + "ab" + "x".repeat(40) + "c" + "x".repeat(67));
        due("count(10), done", x.count(10), 0);
    }

    private static void doesAtTheMost() {
        Due.says("Promise 6: .. FULL: there would be more than 120: by all of them, not on the way");
        ChunkView x = with("x".repeat(120));
        x.stages(0, 48);
        types(x, "y".repeat(24));
        x.stages(100, 0);
        types(x, "z".repeat(24));
        x.stages(120, 0);
        due("48 out, 48 in", x.does(), 120);
        Due.text("48 out, 48 in", x, "x".repeat(52) + "y".repeat(24) + "x".repeat(20) + "z".repeat(24));
        due("undo()", x.undo(), 5);
        x.stages(0, 47);
        types(x, "y".repeat(24));
        x.stages(100, 0);
        types(x, "z".repeat(24));
        x.stages(120, 0);
        due("47 out, 48 in", x.does(), FULL);
        x.drops();
        for (int i = 0; i < 4; i++) {
            types(x, "y".repeat(24));
            x.stages(30 * i, 24);
        }
        due("96 out, 96 in", x.does(), 120);
    }

    private static void dropsNothingAndAll() {
        Due.says("Promise 7: Nothing is STAGED: how many were");
        due("drops() of 4", Made.crowded().drops(), 4);
        due("drops() of 2", Made.richStaged().drops(), 2);
        Due.leavesAll("drops() of none", Made::rich, x -> x.drops(), 0);
        Due.leavesAll("drops() of none, no bytes", ChunkView::new, x -> x.drops(), 0);
        ChunkView x = Made.crowded();
        x.drops();
        due("count(10)", x.count(10), 0);
        due("drops() again", x.drops(), 0);
        due("does()", x.does(), STATE);
        due("the text stays", x.count(0), 120);
        due("the tape stays", x.count(9), 24);
        due("the known stay", x.count(11), 8);
        due("room for four again", x.stages(24, 6), 1);
    }

    private static void droppedIsNotDone() {
        Due.says("Promise 7: Nothing is STAGED: what was is neither counted nor done with a new one");
        ChunkView x = stagedThree(118);
        x.drops();
        x.clear();
        types(x, "gh");
        due("stages(118, 0)", x.stages(118, 0), 1);
        due("does(), to 120", x.does(), 120);
        Due.text("does()", x, "x".repeat(118) + "gh");
    }

    private static void undoStateNone() {
        Due.says("Promise 8: UNDONE: how many more may be. STATE: none");
        refused("undo(), a new object", ChunkView::new, x -> x.undo(), STATE);
        Supplier<ChunkView> none = () -> {
            ChunkView x = Made.rich();
            x.back(0);
            return x;
        };
        refused("undo() behind back()", none, x -> x.undo(), STATE);
        ChunkView x = Made.rich();
        due("undo() of three", x.undo(), 2);
        due("undo() of two", x.undo(), 1);
        due("undo() of one", x.undo(), 0);
        due("undo() of none", x.undo(), STATE);
        due("no bytes are left", x.count(0), 0);
        due("no marks are left", x.count(7), 0);
        due("the tape stays", x.count(9), 2);
        due("the image stays", x.back(0), 5);
    }

    private static void undoStateStaged() {
        Due.says("Promise 8: .. STATE: .. something is STAGED");
        refused("undo(), two are staged", Made::richStaged, x -> x.undo(), STATE);
        refused("undo(), four are staged", Made::crowded, x -> x.undo(), STATE);
        Supplier<ChunkView> both = () -> {
            ChunkView x = new ChunkView();
            x.stages(0, 0);
            return x;
        };
        refused("undo(), none, one is staged", both, x -> x.undo(), STATE);
        Supplier<ChunkView> one = () -> {
            ChunkView x = Made.rich();
            x.stages(0, 0);
            return x;
        };
        refused("undo(), one is staged", one, x -> x.undo(), STATE);
        ChunkView x = Made.richStaged();
        x.drops();
        due("undo() behind drops()", x.undo(), 2);
        x = Made.richStaged();
        x.does();
        due("undo() behind does()", x.undo(), 3);
    }

    // ---- places

    private static void atBad() {
        Due.says("Promise 9: The byte behind a PLACE. BAD");
        badOutside("at", x -> x.count(0) - 1, (x, place) -> x.at(place));
        due("at(0)", Made.rich().at(0), 'a');
        due("at(16) of 17", Made.rich().at(16), '!');
        refused("at(17) of 17, a place with no byte behind", Made::rich, x -> x.at(17), BAD);
        due("at(119) of 120", Made.crowded().at(119), 10);
        refused("at(0) of none", ChunkView::new, x -> x.at(0), BAD);
        Due.leavesAll("at(3)", Made::richStaged, x -> x.at(3), 0xe2);
    }

    private static void tellsBad() {
        Due.says("Promise 10: A PLACE by one MEASURE, told by another one. BAD");
        for (int measure = 0; measure < 4; measure++) {
            int from = measure;
            badOutside("tells(" + from + ", .., 0)", x -> x.count(from), (x, v) -> x.tells(from, v, 0));
            for (Supplier<ChunkView> made : STATES) {
                ChunkView x = made.get();
                isTaken("tells(" + from + ", 0, 3)", x.tells(from, 0, 3));
                due("tells(" + from + ", all, 0), by the end or the last line",
                    x.tells(from, x.count(from), from), x.count(from));
            }
        }
        badOutside("tells(.., 0, 0)", 0, 3, (x, from) -> x.tells(from, 0, 0));
        badOutside("tells(0, 0, ..)", 0, 3, (x, to) -> x.tells(0, 0, to));
        bad("tells(4, -1, 4)", x -> x.tells(4, -1, 4));
        Due.leavesAll("tells(1, 14, 0), the end", Made::richStaged, x -> x.tells(1, 14, 0), 17);
        Due.leavesAll("tells(3, 12, 0), the end", Made::richStaged, x -> x.tells(3, 12, 0), 17);
        Due.leavesAll("tells(2, 3, 0), the last line", Made::richStaged, x -> x.tells(2, 3, 0), 10);
    }

    private static void spotBad() {
        Due.says("Promise 11: Of a PLACE: 0 its LINE, 1 BYTES from where that begins, 2 LETTERS, 3 CELLS. BAD");
        for (int number = 0; number < 4; number++) {
            int what = number;
            badOutside("spot(.., " + what + ")", x -> x.count(0), (x, place) -> x.spot(place, what));
        }
        badOutside("spot(0, ..)", 0, 3, (x, what) -> x.spot(0, what));
        int[] first = {0, 0, 0, 0};
        int[] aheadOfTheEnd = {0, 2, 2, 2};
        int[] behindTheEnd = {1, 0, 0, 0};
        int[] last = {3, 7, 6, 6};
        for (int what = 0; what < 4; what++) {
            due("spot(0, " + what + ")", Made.rich().spot(0, what), first[what]);
            due("spot(2, " + what + "), ahead of a 10", Made.rich().spot(2, what), aheadOfTheEnd[what]);
            due("spot(3, " + what + "), behind it", Made.rich().spot(3, what), behindTheEnd[what]);
            int number = what;
            Due.leavesAll("spot(17, " + what + ")", Made::rich, x -> x.spot(17, number), last[what]);
            due("spot(0, " + what + ") of none", new ChunkView().spot(0, what), 0);
        }
    }

    private static void columnBad() {
        Due.says("Promise 12: The PLACE in a LINE ahead of the first LETTER with which it has more than so many CELLS"
            + " (its end, if there is none). BAD");
        badOutside("column(.., 0)", x -> x.count(4) - 1, (x, line) -> x.column(line, 0));
        bad("column(0, -1)", x -> x.column(0, -1));
        bad("column(0, least)", x -> x.column(0, LEAST));
        bad("column(lines, most)", x -> x.column(x.count(4), MOST));
        int[][] columns = {{0, 1, 2, 2, 2}, {3, 3, 6, 7, 8}, {9, 9, 9, 9, 9}, {10, 11, 12, 13, 15}};
        for (int line = 0; line < 4; line++) {
            for (int cells = 0; cells < 5; cells++) {
                due("column(" + line + ", " + cells + ")", Made.rich().column(line, cells), columns[line][cells]);
            }
        }
        Due.leavesAll("column(3, 5)", Made::rich, x -> x.column(3, 5), 16);
        due("column(3, 6), the end", Made.rich().column(3, 6), 17);
        due("column(3, most), the end", Made.rich().column(3, MOST), 17);
        due("column(1, most), ahead of its 10", Made.rich().column(1, MOST), 8);
        due("column(0, 0) of none", new ChunkView().column(0, 0), 0);
        due("column(0, most) of none", new ChunkView().column(0, MOST), 0);
        due("column(120, 0) of 121", Made.crowded().column(120, 0), 120);
        ChunkView x = with("\u00ff".repeat(120));
        due("column(0, 238)", x.column(0, 238), 119);
        due("column(0, 239)", x.column(0, 239), 119);
        due("column(0, 240), the end", x.column(0, 240), 120);
    }

    private static void columnIsAheadOfALetter() {
        Due.says("Promise 12: .. ahead of the first LETTER with which it has more than so many CELLS: letters of none");
        ChunkView x = with("\u0080\u0001a\u0080\u0002\nb\n\u0081\u0003");
        due("column(0, 0)", x.column(0, 0), 2);
        due("column(0, 1), its end", x.column(0, 1), 5);
        due("column(1, 0)", x.column(1, 0), 6);
        due("column(1, 1), its end", x.column(1, 1), 7);
        due("column(2, 0), no cells: its end", x.column(2, 0), 10);
    }

    private static void lineBad() {
        Due.says("Promise 13: Of a LINE: 0 where it begins, 1 BYTES, 2 LETTERS, 3 CELLS (all without its 10). BAD");
        for (int number = 0; number < 4; number++) {
            int what = number;
            badOutside("line(.., " + what + ")", x -> x.count(4) - 1, (x, k) -> x.line(k, what));
        }
        badOutside("line(0, ..)", 0, 3, (x, what) -> x.line(0, what));
        int[][] lines = {{0, 2, 2, 2}, {3, 5, 3, 4}, {9, 0, 0, 0}, {10, 7, 6, 6}};
        for (int line = 0; line < 4; line++) {
            int k = line;
            for (int number = 0; number < 4; number++) {
                int what = number;
                Due.leavesAll("line(" + k + ", " + what + ")", Made::rich, x -> x.line(k, what), lines[k][what]);
            }
        }
        due("line(120, 0) of 121", Made.crowded().line(120, 0), 120);
        due("line(119, 1) of 121", Made.crowded().line(119, 1), 0);
    }

    private static void wideBad() {
        Due.says("Promise 14: The k-th of WIDE (0 on): its number. BAD");
        badOutside("wide", x -> x.count(4) - 1, (x, k) -> x.wide(k));
        int[] order = {3, 1, 0, 2};
        for (int number = 0; number < 4; number++) {
            int k = number;
            Due.leavesAll("wide(" + k + ")", Made::rich, x -> x.wide(k), order[k]);
        }
        due("wide(0) of none", new ChunkView().wide(0), 0);
        due("wide(120) of 121", Made.crowded().wide(120), 120);
    }

    private static void wideOfWhatThereIs() {
        Due.says("Promise 14: The k-th of WIDE: of what there is now");
        ChunkView x = with("a\nbb");
        due("wide(0)", x.wide(0), 1);
        types(x, "aa");
        x.edits(0, 0);
        due("wide(0) behind edits()", x.wide(0), 0);
        x.undo();
        due("wide(0) behind undo()", x.wide(0), 1);
        x.keep(0);
        x.edits(1, 1);
        due("wide(1), one line less", x.wide(1), BAD);
        due("wide(0), one line", x.wide(0), 0);
        x.back(0);
        due("wide(0) behind back()", x.wide(0), 1);
        types(x, "\u00ff\u00ff");
        x.stages(1, 0);
        due("wide(0) behind stages()", x.wide(0), 1);
        x.does();
        due("wide(0) behind does()", x.wide(0), 0);
    }

    private static void chunkBad() {
        Due.says("Promise 15: Of a CHUNK: MEASURES 0 to 3 of its bytes, 4 CELLS of its widest part between 10s. BAD");
        for (int number = 0; number < 5; number++) {
            int what = number;
            badOutside("chunk(.., " + what + ")", x -> x.count(6) - 1, (x, k) -> x.chunk(k, what));
        }
        badOutside("chunk(0, ..)", 0, 4, (x, what) -> x.chunk(0, what));
        // a b 10 226 130 172 c d, 10 10 e f g, 195 164 h !
        int[][] chunks = {{8, 6, 1, 6, 4}, {5, 5, 2, 3, 3}, {4, 3, 0, 3, 3}};
        for (int number = 0; number < 3; number++) {
            int k = number;
            for (int measure = 0; measure < 5; measure++) {
                int what = measure;
                Due.leavesAll("chunk(" + k + ", " + what + ")", Made::rich, x -> x.chunk(k, what), chunks[k][what]);
            }
        }
        due("chunk(14, 0) of 15", Made.crowded().chunk(14, 0), 8);
        due("chunk(14, 2) of 15", Made.crowded().chunk(14, 2), 8);
    }

    private static void chunkParts() {
        Due.says("Promise 15: .. 4 CELLS of its widest part between 10s: first, last, all, none");
        due("the first part", with("abc\nd\ne").chunk(0, 4), 3);
        due("one between", with("a\nbcd\ne").chunk(0, 4), 3);
        due("the last part", with("a\nb\ncde").chunk(0, 4), 3);
        due("all of it", with("\u00ff".repeat(8)).chunk(0, 4), 16);
        due("10s alone", with("\n".repeat(8)).chunk(0, 4), 0);
        due("no cells", with("\u0080\u001f\n\u0001").chunk(0, 4), 0);
        due("a 10 at each side", with("\nab\n").chunk(0, 4), 2);
        ChunkView x = with("aaaaabbbb");
        due("a line over two: the first", x.chunk(0, 4), 5);
        due("a line over two: the second", x.chunk(1, 4), 4);
    }

    // ---- marks, the reader

    private static void marksBad() {
        Due.says("Promise 16: A MARK (a letter) is at a PLACE: where it was; NONE. BAD");
        badOutside("marks(.., 0)", 'a', 'z', (x, name) -> x.marks(name, 0));
        badOutside("marks(a, ..)", x -> x.count(0), (x, place) -> x.marks('a', place));
        badOutside("marks(y, ..)", x -> x.count(0), (x, place) -> x.marks('y', place));
        bad("marks(A, 0)", x -> x.marks('A', 0));
        bad("marks('a' + 256, 0)", x -> x.marks('a' + 256, 0));
        bad("marks('a' - 1, -1)", x -> x.marks('a' - 1, -1));
        ChunkView x = Made.rich();
        due("marks(a, 17), the end", x.marks('a', 17), NONE);
        due("marks(a, 0)", x.marks('a', 0), 17);
        due("marks(z, 17)", x.marks('z', 17), 0);
        due("mark(a)", x.mark('a'), 0);
        due("mark(z)", x.mark('z'), 17);
        due("marks(a, 0) of none", new ChunkView().marks('a', 0), NONE);
    }

    private static void marksFull() {
        Due.says("Promise 16: .. FULL");
        for (int number = 'i'; number <= 'z'; number++) {
            int name = number;
            due("marks(" + name + ", 0), a ninth", Made.crowded().marks(name, 0), FULL);
        }
        refused("marks(i, 0), a ninth", Made::crowded, x -> x.marks('i', 0), FULL);
        refused("marks(z, 120), a ninth", Made::crowded, x -> x.marks('z', 120), FULL);
        refused("marks(i, 121): BAD ahead of FULL", Made::crowded, x -> x.marks('i', 121), BAD);
        for (int i = 0; i < 8; i++) {
            due("one of eight", Made.crowded().marks('a' + i, 120), 15 * i);
        }
        Due.leavesAll("one of eight where it is", Made::crowded, x -> x.marks('c', 30), 30);
        ChunkView x = Made.crowded();
        x.lifts('a');
        due("an eighth again", x.marks('z', 120), NONE);
        due("a ninth again", x.marks('a', 0), FULL);
    }

    private static void liftsRefused() {
        Due.says("Promise 17: A MARK is no more: where it was. BAD: no letter; STATE: there is none");
        badOutside("lifts", 'a', 'z', (x, name) -> x.lifts(name));
        bad("lifts(Z)", x -> x.lifts('Z'));
        bad("lifts('c' + 256)", x -> x.lifts('c' + 256));
        refused("lifts(a), there is none", Made::rich, x -> x.lifts('a'), STATE);
        refused("lifts(y), there is none", Made::rich, x -> x.lifts('y'), STATE);
        refused("lifts(i), there is none", Made::crowded, x -> x.lifts('i'), STATE);
        refused("lifts(a), no marks", ChunkView::new, x -> x.lifts('a'), STATE);
        ChunkView x = Made.rich();
        due("lifts(z), at 0", x.lifts('z'), 0);
        due("lifts(z) again", x.lifts('z'), STATE);
        due("lifts(m)", x.lifts('m'), 16);
        due("lifts(c)", x.lifts('c'), 3);
        due("count(7)", x.count(7), 0);
        due("next(0)", x.next(0), NONE);
    }

    private static void markRefused() {
        Due.says("Promise 18: Where a MARK is; NONE. BAD: no letter");
        badOutside("mark", 'a', 'z', (x, name) -> x.mark(name));
        bad("mark(C)", x -> x.mark('C'));
        bad("mark('c' + 65536)", x -> x.mark('c' + 65536));
        Due.leavesAll("mark(c)", Made::rich, x -> x.mark('c'), 3);
        Due.leavesAll("mark(z), at 0", Made::rich, x -> x.mark('z'), 0);
        Due.leavesAll("mark(a), none", Made::rich, x -> x.mark('a'), NONE);
        due("mark(a) at 0", Made.crowded().mark('a'), 0);
        due("mark(h) at 105", Made.crowded().mark('h'), 105);
    }

    private static void nextRefused() {
        Due.says("Promise 19: NEXT (the letter); NONE. BAD: no PLACE");
        badOutside("next", x -> x.count(0), (x, place) -> x.next(place));
        bad("next(-9), as NONE", x -> x.next(NONE));
        Due.leavesAll("next(0)", Made::rich, x -> x.next(0), 'z');
        Due.leavesAll("next(1)", Made::rich, x -> x.next(1), 'c');
        Due.leavesAll("next(16)", Made::rich, x -> x.next(16), 'm');
        Due.leavesAll("next(17), the end", Made::rich, x -> x.next(17), NONE);
        Due.leavesAll("next(0) of none", ChunkView::new, x -> x.next(0), NONE);
        due("next(120), no mark there", Made.crowded().next(120), NONE);
        due("next(105)", Made.crowded().next(105), 'h');
        due("next(106)", Made.crowded().next(106), NONE);
    }

    private static void seeksBad() {
        Due.says("Promise 20: THE READER is at a PLACE: where it was. BAD");
        badOutside("seeks", x -> x.count(0), (x, place) -> x.seeks(place));
        ChunkView x = Made.rich();
        due("seeks(17), the end", x.seeks(17), 6);
        due("seeks(0)", x.seeks(0), 17);
        due("seeks(4), among a letter's bytes", x.seeks(4), 0);
        due("count(8)", x.count(8), 4);
        Due.leavesAll("seeks(6), where it is", Made::rich, y -> y.seeks(6), 6);
        Due.leavesAll("seeks(0) of none", ChunkView::new, y -> y.seeks(0), 0);
        due("seeks(120)", Made.crowded().seeks(120), 120);
    }

    private static void readsNone() {
        Due.says("Promise 21: THE READER READS: the first byte; NONE: it is at the end");
        Due.leavesAll("reads() at the end", Made::crowded, x -> x.reads(), NONE);
        Due.leavesAll("reads() of none", ChunkView::new, x -> x.reads(), NONE);
        ChunkView x = Made.rich();
        x.seeks(16);
        due("reads() at the last byte", x.reads(), '!');
        due("count(8)", x.count(8), 17);
        due("reads() at the end", x.reads(), NONE);
        due("count(8), at the end", x.count(8), 17);
        x.seeks(0);
        due("reads() at the first", x.reads(), 'a');
        x = with("\u0000");
        due("reads() a byte 0", x.reads(), 0);
    }

    // ---- images

    private static void keepBad() {
        Due.says("Promise 22: An IMAGE is kept: how many bytes. BAD");
        badOutside("keep", 0, 1, (x, image) -> x.keep(image));
        bad("keep(256)", x -> x.keep(256));
        due("keep(0)", Made.rich().keep(0), 17);
        due("keep(1)", Made.rich().keep(1), 17);
        due("keep(1) of none", new ChunkView().keep(1), 0);
        due("keep(0) of 120", Made.crowded().keep(0), 120);
        ChunkView x = Made.rich();
        x.keep(1);
        due("the other one stays", x.back(0), 5);
        due("this one is kept", x.back(1), 17);
        Due.leavesAll("keep(0) of what it has", Made::crowded, y -> y.keep(0), 120);
    }

    private static void backBad() {
        Due.says("Promise 23: All of that becomes as an IMAGE has it: how many bytes. BAD");
        badOutside("back", 0, 1, (x, image) -> x.back(image));
        bad("back(256)", x -> x.back(256));
        due("back(0)", Made.crowded().back(0), 120);
        due("back(1)", Made.crowded().back(1), 120);
    }

    private static void backState() {
        Due.says("Promise 23: .. STATE: none was kept");
        refused("back(0), none", ChunkView::new, x -> x.back(0), STATE);
        refused("back(1), none", ChunkView::new, x -> x.back(1), STATE);
        refused("back(1), the other one was", Made::rich, x -> x.back(1), STATE);
        refused("back(1), something is staged", Made::richStaged, x -> x.back(1), STATE);
        ChunkView x = Made.richStaged();
        due("back(0)", x.back(0), 5);
        due("back(0) again", x.back(0), 5);
        due("back(1)", x.back(1), STATE);
        x.keep(1);
        due("back(1), kept", x.back(1), 5);
    }

    private static void countBad() {
        Due.says("Promise 24: MEASURES 0 to 3 of all, .. 11 how many may be UNDONE. BAD");
        badOutside("count", 0, 11, (x, what) -> x.count(what));
        int[][] counts = {
            {0, 0, 0, 0, 1, 0, 0, 0, 0, 0, 0, 0},
            {17, 14, 3, 12, 4, 6, 3, 3, 6, 2, 0, 3},
            {17, 14, 3, 12, 4, 6, 3, 3, 6, 2, 2, 3},
            {120, 120, 120, 0, 121, 0, 15, 8, 120, 24, 4, 8}};
        for (int s = 0; s < counts.length; s++) {
            for (int number = 0; number < 12; number++) {
                int what = number;
                Due.leavesAll("count(" + what + ")", STATES.get(s), x -> x.count(what), counts[s][what]);
            }
        }
    }

    private static void digestOfNothingAndAll() {
        Due.says("Promise 25: h = 17; then h = 31 h + v for each v: bytes; sizes of CHUNKS; MARKS by names, letter and"
            + " PLACE");
        Due.leavesAll("digest() of none", ChunkView::new, x -> x.digest(), 17);
        ChunkView marked = new ChunkView();
        marked.marks('b', 0);
        due("digest(), a mark alone", marked.digest(), (17 * 31 + 98) * 31);
        // It wraps around many times over 120 bytes.
        long h = 17;
        for (int i = 0; i < 120; i++) {
            h = 31 * h + 10;
        }
        for (int i = 0; i < 15; i++) {
            h = 31 * h + 8;
        }
        for (int i = 0; i < 8; i++) {
            h = 31 * (31 * h + 'a' + i) + 15 * i;
        }
        Due.leavesAll("digest() of 120", Made::crowded, x -> x.digest(), h);
        Due.holds("it is more than an int", h != (int) h);
        due("digest() of 0, one byte", with("\u0000").digest(), 17 * 31 * 31 + 1);
    }

    private static void changes() {
        newObject();
        typeBad();
        typeFull();
        clearOfNothingAndAll();
        editsBad();
        editsState();
        editsFull();
        editsTape();
        stagesBad();
        stagesState();
        stagesFull();
        stagesTape();
        doesState();
        doesFull();
        doesAtTheMost();
        dropsNothingAndAll();
        droppedIsNotDone();
        undoStateNone();
        undoStateStaged();
    }

    private static void places() {
        atBad();
        tellsBad();
        spotBad();
        columnBad();
        columnIsAheadOfALetter();
        lineBad();
        wideBad();
        wideOfWhatThereIs();
        chunkBad();
        chunkParts();
    }

    private static void marksReaderImages() {
        marksBad();
        marksFull();
        liftsRefused();
        markRefused();
        nextRefused();
        seeksBad();
        readsNone();
        keepBad();
        backBad();
        backState();
        countBad();
        digestOfNothingAndAll();
    }

    public static void main(String[] args) {
        changes();
        places();
        marksReaderImages();
        Due.ends();
    }
}
