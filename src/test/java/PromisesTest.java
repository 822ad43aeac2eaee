/**
 * A test or more for each promise of the document, with answers worked out by hand from its words: what is usual, the
 * edges that it names, and wrong numbers.
 */
public final class PromisesTest {
    private static final int BAD = ChunkView.BAD, STATE = ChunkView.STATE, FULL = ChunkView.FULL;
    private static final int NONE = ChunkView.NONE;
    private static final int LEAST = Integer.MIN_VALUE, MOST = Integer.MAX_VALUE;

    private PromisesTest() {
    }

    private static void due(String call, long got, long want) {
        Due.due(call, got, want);
    }

    private static void types(ChunkView x, String bytes) {
        Made.types(x, bytes);
    }

    private static ChunkView with(String text) {
        return Made.with(text);
    }

    private static void promise1() {
        ChunkView x = new ChunkView();
        int[] counts = {0, 0, 0, 0, 1, 0, 0, 0, 0, 0, 0, 0};
        for (int what = 0; what < counts.length; what++) {
            due("1: count(" + what + ")", x.count(what), counts[what]);
        }
        for (int name = 'a'; name <= 'z'; name++) {
            due("1: mark(" + name + ")", x.mark(name), NONE);
        }
        due("1: line(0, 1)", x.line(0, 1), 0);
        due("1: wide(0)", x.wide(0), 0);
        due("1: at(0)", x.at(0), BAD);
        due("1: digest()", x.digest(), 17);
        ChunkView other = with("abc");
        due("1: another object's bytes", x.count(0), 0);
        due("1: its own", other.count(0), 3);
    }

    private static void promise2() {
        ChunkView x = new ChunkView();
        due("2: type(0)", x.type(0), 1);
        due("2: type(255)", x.type(255), 2);
        due("2: type(-1)", x.type(-1), BAD);
        due("2: type(256)", x.type(256), BAD);
        due("2: type(least)", x.type(LEAST), BAD);
        due("2: type(most)", x.type(MOST), BAD);
        for (int i = 3; i <= 24; i++) {
            due("2: type(65)", x.type(65), i);
        }
        due("2: type(65) of a full tape", x.type(65), FULL);
        due("2: type(256) of a full tape", x.type(256), BAD);
        due("2: count(9)", x.count(9), 24);
        due("2: nothing of it is text", x.count(0), 0);
        x.edits(0, 0);
        due("2: at(0)", x.at(0), 0);
        due("2: at(1)", x.at(1), 255);
        due("2: at(2)", x.at(2), 65);
    }

    private static void promise3() {
        ChunkView x = new ChunkView();
        due("3: clear()", x.clear(), 0);
        types(x, "abc");
        due("3: clear() of abc", x.clear(), 3);
        due("3: count(9)", x.count(9), 0);
        due("3: clear() again", x.clear(), 0);
        types(x, "z");
        x.edits(0, 0);
        Due.text("3: edits behind clear()", x, "z");
    }

    private static void promise4() {
        ChunkView x = with("hello");
        types(x, "EY");
        due("4: edits(1, 3)", x.edits(1, 3), 4);
        Due.text("4: edits(1, 3)", x, "hEYo");
        due("4: the tape is empty", x.count(9), 0);
        due("4: edits(4, 0) at the end", x.edits(4, 0), 4);
        due("4: edits(5, 0)", x.edits(5, 0), BAD);
        due("4: edits(-1, 0)", x.edits(-1, 0), BAD);
        due("4: edits(0, 5)", x.edits(0, 5), BAD);
        due("4: edits(4, 1)", x.edits(4, 1), BAD);
        due("4: edits(0, -1)", x.edits(0, -1), BAD);
        due("4: edits(1, most)", x.edits(1, MOST), BAD);
        due("4: edits(most, most)", x.edits(MOST, MOST), BAD);
        due("4: edits(least, 0)", x.edits(LEAST, 0), BAD);
        due("4: edits(0, least)", x.edits(0, LEAST), BAD);
        types(x, "q");
        due("4: edits(9, 0)", x.edits(9, 0), BAD);
        due("4: a refused edit leaves the tape", x.count(9), 1);
        x.stages(0, 0);
        due("4: edits(0, 0), something is staged", x.edits(0, 0), STATE);
        due("4: edits(9, 0), something is staged", x.edits(9, 0), BAD);
        Due.text("4: refused", x, "hEYo");
        promise4Full();
    }

    private static void promise4Full() {
        ChunkView x = with("x".repeat(110));
        types(x, "12345678901");
        int known = x.count(11);
        due("4: to 121", x.edits(110, 0), FULL);
        due("4: the tape stays", x.count(9), 11);
        due("4: the text stays", x.count(0), 110);
        due("4: nothing more may be undone", x.count(11), known);
        due("4: what is taken out counts", x.edits(110 - 1, 1), 120);
        due("4: the last byte", x.at(119), '1');
        types(x, "!");
        due("4: to 121 again", x.edits(0, 0), FULL);
        x.stages(0, 0);
        types(x, "!");
        due("4: STATE is ahead of FULL", x.edits(0, 0), STATE);
    }

    private static void chunksPutIn() {
        Due.chunks("chunks: 8", with("12345678"), 8);
        Due.chunks("chunks: 9", with("123456789"), 5, 4);
        Due.chunks("chunks: 17", with("12345678901234567"), 6, 6, 5);
        Due.chunks("chunks: 23", with("x".repeat(23)), 8, 8, 7);
        Due.chunks("chunks: 24", with("x".repeat(24)), 8, 8, 8);
        ChunkView x = with("123456789");
        types(x, "abc");
        x.edits(5, 0);
        Due.chunks("chunks: behind a chunk's last byte", x, 8, 4);
        types(x, "d");
        x.edits(9, 0);
        Due.chunks("chunks: in the second one", x, 8, 5);
        types(x, "e");
        x.edits(0, 0);
        Due.chunks("chunks: at place 0", x, 5, 4, 5);
        Due.text("chunks: at place 0", x, "e12345abc6d789");
        types(x, "y".repeat(24));
        x.edits(5, 0);
        Due.chunks("chunks: 29 in one", x, 8, 7, 7, 7, 4, 5);
    }

    private static void chunksTakenOut() {
        ChunkView x = with("123456789");
        x.edits(8, 1);
        Due.chunks("chunks: the last one has no next", x, 5, 3);
        x = with("123456789");
        x.edits(5, 1);
        Due.chunks("chunks: byte ahead is in the first", x, 8);
        x = with("123456789");
        x.edits(0, 1);
        Due.chunks("chunks: none ahead, the first and the next", x, 8);
        x = with("x".repeat(24));
        x.edits(4, 16);
        Due.chunks("chunks: one without bytes goes, two are joined", x, 8);
        x = with("x".repeat(24));
        x.edits(7, 10);
        Due.chunks("chunks: 7 and 7 stay two", x, 7, 7);
        x = with("x".repeat(24));
        x.edits(0, 8);
        Due.chunks("chunks: the first one goes", x, 8, 8);
        x.edits(0, 16);
        Due.chunks("chunks: none are left", x);
        types(x, "a");
        x.edits(0, 0);
        Due.chunks("chunks: a new one", x, 1);
        chunksJoinedOnce();
    }

    private static void chunksJoinedOnce() {
        ChunkView x = with("x".repeat(24));
        x.edits(17, 6);
        x.edits(9, 6);
        Due.chunks("chunks: 2 joined with the next one alone", x, 8, 4);
        x.edits(1, 5);
        Due.chunks("chunks: 3 and 4", x, 7);
        x = with("x".repeat(24));
        x.edits(23, 1);
        x.edits(15, 1);
        x.edits(1, 5);
        Due.chunks("chunks: 3, 7, 7", x, 3, 7, 7);
        x.edits(4, 4);
        Due.chunks("chunks: 3 ahead is not joined", x, 3, 3, 7);
        x.edits(0, 0);
        Due.chunks("chunks: no bytes taken out, nothing is done", x, 3, 3, 7);
        types(x, "z");
        x.edits(3, 0);
        Due.chunks("chunks: put in joins nothing", x, 4, 3, 7);
        types(x, "z");
        x.edits(4, 1);
        Due.chunks("chunks: joined by what is taken out, then grown", x, 7, 7);
    }

    private static void promise5() {
        ChunkView x = with("0123456789abcdefghij");
        types(x, "XY");
        due("5: stages(4, 2)", x.stages(4, 2), 1);
        due("5: the tape is empty", x.count(9), 0);
        due("5: stages(6, 0) touches", x.stages(6, 0), STATE);
        due("5: stages(4, 0) touches", x.stages(4, 0), STATE);
        due("5: stages(2, 2) touches", x.stages(2, 2), STATE);
        due("5: stages(5, 0) is within", x.stages(5, 0), STATE);
        due("5: stages(0, 20) is around", x.stages(0, 20), STATE);
        due("5: stages(3, 0)", x.stages(3, 0), 2);
        due("5: stages(3, 0) again", x.stages(3, 0), STATE);
        due("5: stages(7, 2)", x.stages(7, 2), 3);
        due("5: stages(20, 0) at the end", x.stages(20, 0), 4);
        due("5: stages(15, 1)", x.stages(15, 1), FULL);
        due("5: stages(20, 0) again: STATE is ahead of FULL", x.stages(20, 0), STATE);
        due("5: stages(21, 0)", x.stages(21, 0), BAD);
        due("5: stages(-1, 0)", x.stages(-1, 0), BAD);
        due("5: stages(15, 6)", x.stages(15, 6), BAD);
        due("5: stages(15, -1)", x.stages(15, -1), BAD);
        due("5: stages(1, most)", x.stages(1, MOST), BAD);
        due("5: stages(least, least)", x.stages(LEAST, LEAST), BAD);
        due("5: count(10)", x.count(10), 4);
        types(x, "abc");
        x.stages(15, 0);
        due("5: a refused one leaves the tape", x.count(9), 3);
        Due.text("5: the text stays", x, "0123456789abcdefghij");
    }

    private static void promise6() {
        ChunkView x = with("0123456789");
        due("6: does(), nothing is staged", x.does(), STATE);
        types(x, "ABC");
        x.stages(8, 1);
        types(x, "<");
        x.stages(0, 0);
        x.stages(3, 2);
        types(x, "tape");
        due("6: does()", x.does(), 11);
        Due.text("6: does()", x, "<012567ABC9");
        Due.chunks("6: does()", x, 4, 7);
        due("6: nothing is staged", x.count(10), 0);
        due("6: the tape stays", x.count(9), 4);
        due("6: does() again", x.does(), STATE);
        due("6: one undo for all", x.undo(), 1);
        Due.text("6: undone", x, "0123456789");
        Due.chunks("6: undone", x, 5, 5);
        promise6Full();
    }

    private static void promise6Full() {
        ChunkView x = with("x".repeat(118));
        types(x, "ab");
        x.stages(10, 0);
        types(x, "c");
        x.stages(50, 0);
        due("6: to 121", x.does(), FULL);
        due("6: all stays staged", x.count(10), 2);
        due("6: the text stays", x.count(0), 118);
        due("6: known ones stay", x.count(11), 5);
        x.stages(90, 1);
        due("6: to 120", x.does(), 120);
        due("6: at(10)", x.at(10), 'a');
        due("6: at(52)", x.at(52), 'c');
        types(x, "y".repeat(24));
        x.stages(120, 0);
        types(x, "z".repeat(24));
        x.stages(100, 0);
        x.stages(0, 48);
        due("6: the text is above 120 only on the way", x.does(), 120);
        due("6: at(119)", x.at(119), 'y');
        due("6: at(52)", x.at(52), 'z');
        due("6: at(51)", x.at(51), 'x');
    }

    private static void promise7() {
        ChunkView x = with("0123456789");
        due("7: drops()", x.drops(), 0);
        types(x, "a");
        x.stages(0, 0);
        x.stages(5, 2);
        types(x, "bc");
        due("7: drops() of two", x.drops(), 2);
        due("7: count(10)", x.count(10), 0);
        due("7: the tape stays", x.count(9), 2);
        due("7: does()", x.does(), STATE);
        due("7: what was staged touches no more", x.stages(5, 2), 1);
        Due.text("7: the text stays", x, "0123456789");
        due("7: does() without what was dropped", x.does(), 10);
        Due.text("7: does()", x, "01234bc789");
        promise7Dropped();
    }

    private static void promise7Dropped() {
        ChunkView x = with("x".repeat(118));
        types(x, "abc");
        x.stages(3, 0);
        types(x, "def");
        x.stages(9, 0);
        x.drops();
        types(x, "gh");
        x.stages(118, 0);
        due("7: what was dropped is no longer counted", x.does(), 120);
        Due.text("7: what was dropped is not done", x, "x".repeat(118) + "gh");
    }

    private static void promise8() {
        ChunkView x = new ChunkView();
        due("8: undo(), none", x.undo(), STATE);
        types(x, "abcdefghijkl");
        x.edits(0, 0);
        x.marks('m', 7);
        x.seeks(9);
        types(x, "XYZ");
        x.edits(2, 5);
        x.marks('n', 1);
        x.lifts('m');
        x.seeks(0);
        types(x, "t");
        due("8: undo()", x.undo(), 1);
        Due.text("8: undone", x, "abcdefghijkl");
        Due.chunks("8: undone", x, 6, 6);
        due("8: mark(m)", x.mark('m'), 7);
        due("8: mark(n)", x.mark('n'), NONE);
        due("8: the reader", x.count(8), 9);
        due("8: the tape stays", x.count(9), 1);
        x.stages(0, 0);
        due("8: undo(), something is staged", x.undo(), STATE);
        x.drops();
        due("8: undo() to the begin", x.undo(), 0);
        due("8: no bytes", x.count(0), 0);
        due("8: no marks", x.count(7), 0);
        due("8: undo(), none more", x.undo(), STATE);
        due("8: edits that change nothing may be undone", x.edits(0, 0), 0);
        due("8: undo() of nothing", x.undo(), 0);
        x.edits(1, 0);
        due("8: refused ones may not", x.undo(), STATE);
        promise8Eight();
    }

    private static void promise8Eight() {
        ChunkView x = new ChunkView();
        for (int i = 0; i < 11; i++) {
            x.type('a' + i);
            x.edits(i, 0);
        }
        due("8: known", x.count(11), 8);
        for (int left = 7; left >= 0; left--) {
            due("8: undo()", x.undo(), left);
            due("8: bytes", x.count(0), left + 3);
        }
        due("8: older ones are lost", x.undo(), STATE);
        Due.text("8: the oldest known", x, "abc");
    }

    private static void promise9() {
        ChunkView x = with("a\u00ff\n");
        due("9: at(0)", x.at(0), 97);
        due("9: at(1)", x.at(1), 255);
        due("9: at(2)", x.at(2), 10);
        due("9: at(3), the end", x.at(3), BAD);
        due("9: at(-1)", x.at(-1), BAD);
        due("9: at(most)", x.at(MOST), BAD);
        due("9: at(least)", x.at(LEAST), BAD);
    }

    // By places: 0 a, 1 10, 2 226, 3 130, 4 172, 5 195, 6 164, 7 31, 8 10, 9 z; cells 1 0 2 0 0 1 0 0 0 1.
    private static final String MIXED = "a\n\u00e2\u0082\u00ac\u00c3\u00a4\u001f\nz";

    private static int[] told(ChunkView x, int from, int to) {
        int[] told = new int[x.count(from) + 1];
        for (int v = 0; v < told.length; v++) {
            told[v] = x.tells(from, v, to);
        }
        return told;
    }

    private static void promise10() {
        ChunkView x = with(MIXED);
        Due.row("10: bytes as bytes", told(x, 0, 0), 0, 1, 2, 3, 4, 5, 6, 7, 8, 9, 10);
        Due.row("10: bytes as letters", told(x, 0, 1), 0, 1, 2, 3, 3, 3, 4, 4, 5, 6, 7);
        Due.row("10: bytes as ends", told(x, 0, 2), 0, 0, 1, 1, 1, 1, 1, 1, 1, 2, 2);
        Due.row("10: bytes as cells", told(x, 0, 3), 0, 1, 1, 3, 3, 3, 4, 4, 4, 4, 5);
        Due.row("10: letters as bytes", told(x, 1, 0), 0, 1, 2, 5, 7, 8, 9, 10);
        Due.row("10: letters as cells", told(x, 1, 3), 0, 1, 1, 3, 4, 4, 4, 5);
        Due.row("10: ends as bytes", told(x, 2, 0), 0, 2, 9);
        Due.row("10: ends as letters", told(x, 2, 1), 0, 2, 6);
        Due.row("10: cells as bytes", told(x, 3, 0), 0, 2, 2, 5, 9, 10);
        Due.row("10: cells as cells", told(x, 3, 3), 0, 1, 1, 3, 4, 5);
        Due.row("10: cells as ends", told(x, 3, 2), 0, 1, 1, 1, 2, 2);
        int[] most = {10, 7, 2, 5};
        for (int from = 0; from < 4; from++) {
            due("10: tells(" + from + ", one more, 0)", x.tells(from, most[from] + 1, 0), BAD);
            due("10: tells(" + from + ", -1, 0)", x.tells(from, -1, 0), BAD);
            due("10: tells(" + from + ", most, 0)", x.tells(from, MOST, 0), BAD);
        }
        due("10: tells(-1, 0, 0)", x.tells(-1, 0, 0), BAD);
        due("10: tells(4, 0, 0)", x.tells(4, 0, 0), BAD);
        due("10: tells(0, 0, -1)", x.tells(0, 0, -1), BAD);
        due("10: tells(0, 0, 4)", x.tells(0, 0, 4), BAD);
        promise10Edges();
    }

    private static void promise10Edges() {
        ChunkView x = with("\u0080\u00bf");
        Due.row("10: no letters: the end", told(x, 1, 0), 2);
        Due.row("10: no cells: the end", told(x, 3, 0), 2);
        x = with("\u0000\u001f\u0020\u007f\u0080\u00bf\u00c0\u00df\u00e0\u00ff");
        Due.row("10: letters at the edges", told(x, 0, 1), 0, 1, 2, 3, 4, 4, 4, 5, 6, 7, 8);
        Due.row("10: cells at the edges", told(x, 0, 3), 0, 0, 0, 1, 2, 2, 2, 3, 4, 6, 8);
    }

    private static int[] spots(ChunkView x, int what) {
        int[] spots = new int[x.count(0) + 1];
        for (int place = 0; place < spots.length; place++) {
            spots[place] = x.spot(place, what);
        }
        return spots;
    }

    private static void promise11() {
        ChunkView x = with(MIXED);
        Due.row("11: line", spots(x, 0), 0, 0, 1, 1, 1, 1, 1, 1, 1, 2, 2);
        Due.row("11: bytes", spots(x, 1), 0, 1, 0, 1, 2, 3, 4, 5, 6, 0, 1);
        Due.row("11: letters", spots(x, 2), 0, 1, 0, 1, 1, 1, 2, 2, 3, 0, 1);
        Due.row("11: cells", spots(x, 3), 0, 1, 0, 2, 2, 2, 3, 3, 3, 0, 1);
        due("11: spot(11, 0)", x.spot(11, 0), BAD);
        due("11: spot(-1, 0)", x.spot(-1, 0), BAD);
        due("11: spot(0, 4)", x.spot(0, 4), BAD);
        due("11: spot(0, -1)", x.spot(0, -1), BAD);
        due("11: spot(most, most)", x.spot(MOST, MOST), BAD);
        due("11: spot(least, least)", x.spot(LEAST, LEAST), BAD);
    }

    private static void promise12() {
        ChunkView x = with(MIXED);
        int[] columns = new int[5];
        for (int cells = 0; cells < 5; cells++) {
            columns[cells] = x.column(1, cells);
        }
        Due.row("12: line 1", columns, 2, 2, 5, 8, 8);
        due("12: column(0, 0)", x.column(0, 0), 0);
        due("12: column(0, 1), ahead of the 10", x.column(0, 1), 1);
        due("12: column(2, 0)", x.column(2, 0), 9);
        due("12: column(2, 1)", x.column(2, 1), 10);
        due("12: column(1, most)", x.column(1, MOST), 8);
        due("12: column(2, most)", x.column(2, MOST), 10);
        due("12: column(3, 0)", x.column(3, 0), BAD);
        due("12: column(-1, 0)", x.column(-1, 0), BAD);
        due("12: column(most, 0)", x.column(MOST, 0), BAD);
        due("12: column(0, -1)", x.column(0, -1), BAD);
        due("12: column(0, least)", x.column(0, LEAST), BAD);
        x = with("q\n\u0080\u0001b\n");
        due("12: ahead of the first with cells", x.column(1, 0), 4);
        due("12: an empty last line", x.column(2, 0), 6);
    }

    private static void promise13() {
        ChunkView x = with(MIXED);
        int[][] lines = {{0, 1, 1, 1}, {2, 6, 3, 3}, {9, 1, 1, 1}};
        for (int k = 0; k < lines.length; k++) {
            for (int what = 0; what < 4; what++) {
                due("13: line(" + k + ", " + what + ")", x.line(k, what), lines[k][what]);
            }
        }
        due("13: line(3, 0)", x.line(3, 0), BAD);
        due("13: line(-1, 0)", x.line(-1, 0), BAD);
        due("13: line(0, 4)", x.line(0, 4), BAD);
        due("13: line(0, -1)", x.line(0, -1), BAD);
        due("13: line(most, 0)", x.line(MOST, 0), BAD);
        due("13: line(0, least)", x.line(0, LEAST), BAD);
        x = with("\n\n");
        for (int k = 0; k < 3; k++) {
            due("13: an empty line(" + k + ", 0)", x.line(k, 0), k);
            due("13: an empty line(" + k + ", 1)", x.line(k, 1), 0);
        }
    }

    private static void promise14() {
        ChunkView x = with("ab\n\u00e2\u00e2\n\nabcd\ncd\n");
        int[] order = {1, 3, 0, 4, 2, 5};
        for (int k = 0; k < order.length; k++) {
            due("14: wide(" + k + ")", x.wide(k), order[k]);
        }
        due("14: wide(6)", x.wide(6), BAD);
        due("14: wide(-1)", x.wide(-1), BAD);
        due("14: wide(most)", x.wide(MOST), BAD);
        types(x, "vwxyz");
        x.edits(6, 0);
        due("14: wide(0) behind a change", x.wide(0), 2);
        x.undo();
        due("14: wide(0), undone", x.wide(0), 1);
        x = with("\n".repeat(120));
        due("14: 121 lines", x.count(4), 121);
        due("14: wide(120)", x.wide(120), 120);
        due("14: wide(121)", x.wide(121), BAD);
    }

    private static void dueMeasures(String when, ChunkView x, int[][] chunks) {
        due(when + ": chunks", x.count(6), chunks.length);
        for (int k = 0; k < chunks.length; k++) {
            for (int what = 0; what < 5; what++) {
                due(when + ": chunk(" + k + ", " + what + ")", x.chunk(k, what), chunks[k][what]);
            }
        }
    }

    private static void promise15() {
        ChunkView x = with("a\n\u00e2\u0082\u00acbc\nd\u00e2\u0082\u00acxyz");
        dueMeasures("15: lines", x, new int[][] {{8, 6, 2, 5, 4}, {7, 5, 0, 6, 6}});
        x = with("1234567\u00e2\u0082\u00ac\n\nab\n");
        dueMeasures("15: a letter over two chunks", x, new int[][] {{8, 8, 0, 9, 9}, {7, 5, 3, 2, 2}});
        dueMeasures("15: no cells", with("\n\u0001\u0080"), new int[][] {{3, 2, 1, 0, 0}});
        dueMeasures("15: ends alone", with("\n\n"), new int[][] {{2, 2, 2, 0, 0}});
        due("15: chunk(2, 0)", x.chunk(2, 0), BAD);
        due("15: chunk(-1, 0)", x.chunk(-1, 0), BAD);
        due("15: chunk(0, 5)", x.chunk(0, 5), BAD);
        due("15: chunk(0, -1)", x.chunk(0, -1), BAD);
        due("15: chunk(most, 0)", x.chunk(MOST, 0), BAD);
        due("15: chunk(0, 0), no bytes", new ChunkView().chunk(0, 0), BAD);
        chunksPutIn();
        chunksTakenOut();
    }

    private static void promise16() {
        ChunkView x = with("0123456789");
        due("16: marks(a, 3)", x.marks('a', 3), NONE);
        due("16: marks(a, 10), the end", x.marks('a', 10), 3);
        due("16: marks(z, 0)", x.marks('z', 0), NONE);
        due("16: marks(z, 0) again", x.marks('z', 0), 0);
        due("16: no letter", x.marks('a' - 1, 0), BAD);
        due("16: no letter", x.marks('z' + 1, 0), BAD);
        due("16: no letter", x.marks('A', 0), BAD);
        due("16: no letter", x.marks(LEAST, 0), BAD);
        due("16: no place", x.marks('b', 11), BAD);
        due("16: no place", x.marks('b', -1), BAD);
        for (int name = 'b'; name < 'h'; name++) {
            due("16: marks(" + name + ", 5)", x.marks(name, 5), NONE);
        }
        due("16: a ninth one", x.marks('h', 5), FULL);
        due("16: a ninth one at no place", x.marks('h', 11), BAD);
        due("16: one of eight", x.marks('g', 6), 5);
        due("16: count(7)", x.count(7), 8);
        due("16: mark(h)", x.mark('h'), NONE);
        marksTakenAlong();
    }

    private static int[] places(ChunkView x) {
        int[] places = new int[7];
        for (int i = 0; i < 7; i++) {
            places[i] = x.mark('a' + i);
        }
        return places;
    }

    private static ChunkView withMarks() {
        ChunkView x = with("0123456789");
        int[] at = {0, 3, 4, 5, 6, 7, 10};
        for (int i = 0; i < at.length; i++) {
            x.marks('a' + i, at[i]);
        }
        return x;
    }

    private static void marksTakenAlong() {
        ChunkView x = withMarks();
        x.edits(3, 3);
        Due.row("16: taken out", places(x), 0, 3, 3, 3, 3, 4, 7);
        x = withMarks();
        types(x, "xy");
        x.edits(4, 0);
        Due.row("16: put in", places(x), 0, 3, 4, 7, 8, 9, 12);
        x = withMarks();
        types(x, "xy");
        x.edits(3, 3);
        Due.row("16: taken out, put in", places(x), 0, 3, 3, 3, 3, 6, 9);
        x = withMarks();
        x.stages(0, 2);
        types(x, "xyz");
        x.stages(5, 1);
        x.does();
        Due.row("16: staged", places(x), 0, 1, 2, 3, 3, 7, 10);
        x.undo();
        Due.row("16: undone", places(x), 0, 3, 4, 5, 6, 7, 10);
        x.marks('a', 9);
        x.marks('z', 8);
        x.edits(1, 1);
        due("16: the first name goes along", x.mark('a'), 8);
        due("16: the last name goes along", x.mark('z'), 7);
        types(x, "xy");
        x.edits(1, 0);
        due("16: the first name goes along again", x.mark('a'), 10);
        due("16: the last name goes along again", x.mark('z'), 9);
    }

    private static void promise17() {
        ChunkView x = with("0123456789");
        x.marks('k', 4);
        due("17: lifts(k)", x.lifts('k'), 4);
        due("17: lifts(k) again", x.lifts('k'), STATE);
        due("17: mark(k)", x.mark('k'), NONE);
        due("17: count(7)", x.count(7), 0);
        due("17: no letter", x.lifts('a' - 1), BAD);
        due("17: no letter", x.lifts('z' + 1), BAD);
        due("17: no letter", x.lifts(MOST), BAD);
        due("17: no letter", x.lifts(LEAST), BAD);
        for (int name = 'a'; name < 'i'; name++) {
            x.marks(name, 0);
        }
        due("17: lifts(a)", x.lifts('a'), 0);
        due("17: there is room again", x.marks('z', 0), NONE);
    }

    private static void promise18() {
        ChunkView x = with("0123456789");
        x.marks('a', 10);
        x.marks('z', 0);
        due("18: mark(a)", x.mark('a'), 10);
        due("18: mark(z)", x.mark('z'), 0);
        due("18: mark(b)", x.mark('b'), NONE);
        due("18: no letter", x.mark('a' - 1), BAD);
        due("18: no letter", x.mark('z' + 1), BAD);
        due("18: no letter", x.mark(0), BAD);
        due("18: no letter", x.mark(LEAST), BAD);
        due("18: no letter", x.mark(MOST), BAD);
    }

    private static void promise19() {
        ChunkView x = with("0123456789");
        due("19: next(0), no marks", x.next(0), NONE);
        x.marks('q', 6);
        x.marks('d', 6);
        x.marks('a', 8);
        x.marks('x', 2);
        due("19: next(0)", x.next(0), 'x');
        due("19: next(2)", x.next(2), 'x');
        due("19: next(3), of several the first", x.next(3), 'd');
        due("19: next(6)", x.next(6), 'd');
        due("19: next(7)", x.next(7), 'a');
        due("19: next(9)", x.next(9), NONE);
        due("19: next(10), the end", x.next(10), NONE);
        x.marks('z', 10);
        due("19: next(10), a mark there", x.next(10), 'z');
        due("19: next(11)", x.next(11), BAD);
        due("19: next(-1)", x.next(-1), BAD);
        due("19: next(-9)", x.next(-9), BAD);
        due("19: next(most)", x.next(MOST), BAD);
    }

    private static void promise20() {
        ChunkView x = with("0123456789");
        due("20: seeks(10), the end", x.seeks(10), 0);
        due("20: seeks(4)", x.seeks(4), 10);
        due("20: seeks(11)", x.seeks(11), BAD);
        due("20: seeks(-1)", x.seeks(-1), BAD);
        due("20: seeks(least)", x.seeks(LEAST), BAD);
        due("20: the reader", x.count(8), 4);
        due("20: reads()", x.reads(), '4');
        types(x, "ab");
        x.edits(5, 0);
        due("20: put in at the reader", x.count(8), 5);
        types(x, "ab");
        x.edits(4, 0);
        due("20: put in ahead of it", x.count(8), 7);
        x.edits(6, 1);
        due("20: behind what is taken out", x.count(8), 6);
        x.edits(5, 3);
        due("20: among what is taken out", x.count(8), 5);
        x.edits(1, 2);
        due("20: farther behind", x.count(8), 3);
    }

    private static void promise21() {
        ChunkView x = with("a\u00e2\u0082\u00ac\n\u00c3\u00a4");
        int[] letters = {'a', 0xe2, 10, 0xc3, NONE, NONE};
        int[] behind = {1, 4, 5, 7, 7, 7};
        for (int i = 0; i < letters.length; i++) {
            due("21: reads() " + i, x.reads(), letters[i]);
            due("21: the reader " + i, x.count(8), behind[i]);
        }
        x.seeks(2);
        due("21: reads() among a letter's bytes", x.reads(), 0x82);
        due("21: the reader is behind that letter", x.count(8), 4);
        x = with("\u0080\u00bf\u00c0");
        due("21: reads() with no letter ahead", x.reads(), 0x80);
        due("21: reads() the first letter", x.reads(), 0xc0);
        due("21: reads() at the end", x.reads(), NONE);
        due("21: reads() of no bytes", new ChunkView().reads(), NONE);
    }

    private static void promise22() {
        ChunkView x = with("0123456789");
        due("22: keep(0)", x.keep(0), 10);
        due("22: keep(1)", x.keep(1), 10);
        due("22: keep(2)", x.keep(2), BAD);
        due("22: keep(-1)", x.keep(-1), BAD);
        due("22: keep(most)", x.keep(MOST), BAD);
        due("22: keep(least)", x.keep(LEAST), BAD);
        x.edits(0, 4);
        due("22: keep(0) again", x.keep(0), 6);
        due("22: it leaves what may be undone", x.undo(), 1);
        x.stages(0, 1);
        due("22: keep(0), something is staged", x.keep(0), 10);
        due("22: it stays staged", x.count(10), 1);
        due("22: keep(0) of no bytes", new ChunkView().keep(0), 0);
    }

    private static void promise23() {
        ChunkView x = with("0123456789ab");
        due("23: back(0), none", x.back(0), STATE);
        due("23: back(2)", x.back(2), BAD);
        due("23: back(-1)", x.back(-1), BAD);
        due("23: back(most)", x.back(MOST), BAD);
        due("23: back(least)", x.back(LEAST), BAD);
        x.marks('m', 9);
        x.seeks(11);
        x.keep(1);
        due("23: back(0), one is kept, but not this", x.back(0), STATE);
        due("23: a refused one leaves what may be undone", x.count(11), 1);
        types(x, "xyz\n");
        x.edits(3, 5);
        x.marks('n', 2);
        x.lifts('m');
        x.seeks(1);
        x.keep(0);
        types(x, "tape");
        x.stages(0, 1);
        types(x, "new");
        due("23: back(1)", x.back(1), 12);
        Due.text("23: back(1)", x, "0123456789ab");
        Due.chunks("23: back(1)", x, 6, 6);
        due("23: mark(m)", x.mark('m'), 9);
        due("23: mark(n)", x.mark('n'), NONE);
        due("23: the reader", x.count(8), 11);
        due("23: nothing is staged", x.count(10), 0);
        due("23: nothing can be undone", x.count(11), 0);
        due("23: undo()", x.undo(), STATE);
        due("23: the tape stays", x.count(9), 3);
        due("23: lines", x.count(4), 1);
        x.edits(0, 12);
        due("23: back(1) again", x.back(1), 12);
        Due.text("23: an image stays as it was", x, "0123456789ab");
        due("23: back(0)", x.back(0), 11);
        Due.text("23: back(0)", x, "012xyz\n89ab");
        due("23: mark(n)", x.mark('n'), 2);
        due("23: wide(0)", x.wide(0), 0);
    }

    private static void promise24() {
        ChunkView x = with(MIXED + "tape");
        x.marks('b', 1);
        x.marks('c', 1);
        x.seeks(3);
        types(x, "12345");
        x.stages(4, 0);
        types(x, "12345");
        int[] counts = {14, 11, 2, 9, 3, 5, 2, 2, 3, 5, 1, 1};
        for (int what = 0; what < counts.length; what++) {
            due("24: count(" + what + ")", x.count(what), counts[what]);
        }
        due("24: count(12)", x.count(12), BAD);
        due("24: count(-1)", x.count(-1), BAD);
        due("24: count(most)", x.count(MOST), BAD);
        due("24: count(least)", x.count(LEAST), BAD);
        x = with("\u00e2".repeat(120));
        due("24: most cells", x.count(3), 240);
        due("24: of the widest", x.count(5), 240);
        due("24: by cells", x.tells(3, 239, 0), 119);
        due("24: most letters", x.count(1), 120);
        x = with("\n".repeat(120));
        due("24: most ends", x.count(2), 120);
        due("24: the last line's begin", x.line(120, 0), 120);
        due("24: no cells", x.count(5), 0);
    }

    private static void promise25() {
        due("25: no bytes", new ChunkView().digest(), 17);
        due("25: a", with("a").digest(), (17 * 31 + 97) * 31 + 1);
        ChunkView x = with("123456789");
        long h = 17;
        for (int v : new int[] {49, 50, 51, 52, 53, 54, 55, 56, 57, 5, 4, 'b', 9, 'y', 0}) {
            h = 31 * h + v;
        }
        x.marks('y', 0);
        x.marks('b', 9);
        due("25: bytes, chunks, marks by names", x.digest(), h);
        x.seeks(3);
        types(x, "abc");
        x.stages(0, 0);
        x.keep(0);
        due("25: nothing else", x.digest(), h);
    }

    public static void main(String[] args) {
        promise1();
        promise2();
        promise3();
        promise4();
        promise5();
        promise6();
        promise7();
        promise8();
        promise9();
        promise10();
        promise11();
        promise12();
        promise13();
        promise14();
        promise15();
        promise16();
        promise17();
        promise18();
        promise19();
        promise20();
        promise21();
        promise22();
        promise23();
        promise24();
        promise25();
        Due.ends();
    }
}
