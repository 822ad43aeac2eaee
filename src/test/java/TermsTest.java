/**
 * The sentences of the document's "Terms" that name a bound, a test for each: the last that is taken and the first that
 * is not on each side, the empty and the full case. What a call refuses, and that nothing changes then, is in
 * RefusedTest.
 */
public final class TermsTest {
    private static final int BAD = ChunkView.BAD, STATE = ChunkView.STATE, FULL = ChunkView.FULL;
    private static final int NONE = ChunkView.NONE;

    private TermsTest() {
    }

    private static void due(String call, long got, long want) {
        Due.due(call, got, want);
    }

    private static void types(ChunkView x, String bytes) {
        Made.types(x, bytes);
    }

    private static ChunkView with(String text) {
        return Made.with(text);
    }

    private static String sign(int b) {
        return String.valueOf((char) b);
    }

    private static void objectTakes512Calls() {
        Due.says("An object is used for at most 512 calls after it has been made");
        ChunkView x = new ChunkView();
        for (int i = 0; i < 128; i++) {
            due("type, call " + (4 * i + 1), x.type(i), 1);
            due("edits, call " + (4 * i + 2), x.edits(0, i == 0 ? 0 : 1), 1);
            due("at, call " + (4 * i + 3), x.at(0), i);
            due("count, call " + (4 * i + 4), x.count(11), Math.min(i + 1, 8));
        }
    }

    // ---- 1

    private static void textIsEmptyAtFirst() {
        Due.says("THE TEXT has 0 to 120 bytes (0 .. 255; none at first): none at first");
        ChunkView x = new ChunkView();
        due("count(0)", x.count(0), 0);
        due("at(0)", x.at(0), BAD);
        due("type(255)", x.type(255), 1);
        due("the first edit", x.edits(0, 0), 1);
    }

    private static void textHasEveryByte() {
        Due.says("THE TEXT has 0 to 120 bytes (0 .. 255; none at first): 0 .. 255");
        for (int b = 0; b < 256; b++) {
            ChunkView x = with(sign(b));
            due("count(0) of " + b, x.count(0), 1);
            due("at(0) of " + b, x.at(0), b);
            due("digest() of " + b, x.digest(), (17 * 31 + b) * 31 + 1);
        }
    }

    private static void textHasUpTo120() {
        Due.says("THE TEXT has 0 to 120 bytes (0 .. 255; none at first): 0 to 120");
        ChunkView x = new ChunkView();
        for (int size = 24; size <= 120; size += 24) {
            types(x, "x".repeat(23) + "y");
            due("edits to " + size, x.edits(size - 24, 0), size);
        }
        due("at(119), the last byte", x.at(119), 'y');
        due("at(120)", x.at(120), BAD);
        types(x, "z");
        due("to 121 at the begin", x.edits(0, 0), FULL);
        due("to 121 at the end", x.edits(120, 0), FULL);
        due("120 again, one taken out", x.edits(119, 1), 120);
        due("at(119), the new byte", x.at(119), 'z');
        due("all taken out", x.edits(0, 120), 0);
        due("count(0)", x.count(0), 0);
        due("at(0)", x.at(0), BAD);
    }

    private static void textTakesAsMuchAsGoesOut() {
        Due.says("THE TEXT has 0 to 120 bytes: a full one takes as many as go out of it");
        ChunkView x = with("x".repeat(120));
        types(x, "y".repeat(24));
        due("23 out, 24 in", x.edits(60, 23), FULL);
        due("24 out, 24 in", x.edits(60, 24), 120);
        due("at(59)", x.at(59), 'x');
        due("at(60)", x.at(60), 'y');
        due("at(83)", x.at(83), 'y');
        due("at(84)", x.at(84), 'x');
    }

    private static void placesOf(ChunkView x, int size) {
        int[] places = {0, size, -1, size + 1, Integer.MIN_VALUE, Integer.MAX_VALUE};
        for (int i = 0; i < places.length; i++) {
            int p = places[i];
            boolean isOne = i < 2;
            String of = "(" + p + ") of " + size;
            due("spot" + of, x.spot(p, 1), isOne ? p : BAD);
            due("marks" + of, x.marks('a' + i, p), isOne ? NONE : BAD);
            due("next" + of, x.next(p) == BAD ? 1 : 0, isOne ? 0 : 1);
            due("seeks" + of, x.seeks(p) == BAD ? 1 : 0, isOne ? 0 : 1);
            due("stages" + of, x.stages(p, 0) == BAD ? 1 : 0, isOne ? 0 : 1);
            x.drops();
            due("edits" + of, x.edits(p, 0), isOne ? size : BAD);
        }
    }

    private static void placesGoToTheEnd() {
        Due.says("PLACES 0 .. as many as bytes: so many bytes are ahead of it");
        for (int size : new int[] {0, 1, 8, 9, 120}) {
            placesOf(with("x".repeat(size)), size);
        }
    }

    private static void placesHaveSoManyAhead() {
        Due.says("PLACES 0 .. as many as bytes: so many bytes are ahead of it");
        ChunkView x = with("x".repeat(120));
        for (int p = 0; p <= 120; p++) {
            due("tells(0, " + p + ", 0)", x.tells(0, p, 0), p);
            due("spot(" + p + ", 1)", x.spot(p, 1), p);
        }
    }

    private static boolean goesWithTheLetterAhead(int b) {
        return b >= 128 && b <= 191;
    }

    private static void lettersBegin() {
        Due.says("A LETTER begins at each byte but 128 .. 191 (these go with the LETTER ahead)");
        for (int b = 0; b < 256; b++) {
            boolean goes = goesWithTheLetterAhead(b);
            ChunkView x = with("a" + sign(b) + "c");
            due("letters of a, " + b + ", c", x.count(1), goes ? 2 : 3);
            due("letters as bytes", x.tells(1, 1, 0), goes ? 2 : 1);
            x.reads();
            due("the reader behind a", x.count(8), goes ? 2 : 1);
        }
    }

    private static void lettersOfManyBytes() {
        Due.says("A LETTER begins at each byte but 128 .. 191: one letter with all, none at all");
        ChunkView x = with("a" + "\u0080".repeat(119));
        due("count(1)", x.count(1), 1);
        due("count(3)", x.count(3), 1);
        due("tells(1, 1, 0)", x.tells(1, 1, 0), 120);
        due("reads()", x.reads(), 'a');
        due("the reader", x.count(8), 120);
        x = with("\u00bf".repeat(120));
        due("count(1), no letter", x.count(1), 0);
        due("count(3), no letter", x.count(3), 0);
        due("tells(1, 0, 0), no letter", x.tells(1, 0, 0), 120);
        due("tells(1, 1, 0), no letter", x.tells(1, 1, 0), BAD);
        due("count(1), no bytes", new ChunkView().count(1), 0);
    }

    private static void linesEnd() {
        Due.says("A byte is 10: its LETTER ends a LINE");
        for (int b = 0; b < 256; b++) {
            ChunkView x = with("a" + sign(b) + "c");
            due("ends of a, " + b + ", c", x.count(2), b == 10 ? 1 : 0);
            due("lines of a, " + b + ", c", x.count(4), b == 10 ? 2 : 1);
        }
    }

    private static void dueLines(String text, int[][] lines) {
        ChunkView x = with(text);
        due("lines", x.count(4), lines.length);
        for (int k = 0; k < lines.length; k++) {
            for (int what = 0; what < 4; what++) {
                due("line(" + k + ", " + what + ")", x.line(k, what), lines[k][what]);
            }
        }
        due("line(-1, 0)", x.line(-1, 0), BAD);
        due("line(one more, 0)", x.line(lines.length, 0), BAD);
    }

    private static void linesBegin() {
        Due.says("LINE k begins at PLACE 0 (k 0), else behind the k-th 10; it holds what is ahead of the next 10"
            + " (or the end)");
        dueLines("", new int[][] {{0, 0, 0, 0}});
        dueLines("a", new int[][] {{0, 1, 1, 1}});
        dueLines("\n", new int[][] {{0, 0, 0, 0}, {1, 0, 0, 0}});
        dueLines("\n\n", new int[][] {{0, 0, 0, 0}, {1, 0, 0, 0}, {2, 0, 0, 0}});
        dueLines("a\n", new int[][] {{0, 1, 1, 1}, {2, 0, 0, 0}});
        dueLines("\na", new int[][] {{0, 0, 0, 0}, {1, 1, 1, 1}});
        dueLines("a\n\u0080b", new int[][] {{0, 1, 1, 1}, {2, 2, 1, 1}});
        dueLines("\u00e2\u0080\n\u0080", new int[][] {{0, 2, 1, 2}, {3, 1, 0, 0}});
    }

    private static void linesAtTheMost() {
        Due.says("LINE k begins .. behind the k-th 10: 121 of them, or one with all");
        ChunkView x = with("\n".repeat(120));
        due("count(4)", x.count(4), 121);
        due("line(120, 0)", x.line(120, 0), 120);
        due("line(120, 1)", x.line(120, 1), 0);
        due("line(121, 0)", x.line(121, 0), BAD);
        due("spot(120, 0)", x.spot(120, 0), 120);
        x = with("\u00ff".repeat(120));
        due("count(4), one line", x.count(4), 1);
        due("line(0, 1), one line", x.line(0, 1), 120);
        due("line(0, 3), one line", x.line(0, 3), 240);
        due("line(1, 0), one line", x.line(1, 0), BAD);
    }

    private static void letterCells(int from, int to, int cells) {
        for (int b = from; b <= to; b++) {
            ChunkView x = with(sign(b));
            due("cells of " + b, x.count(3), cells);
            due("cells of a chunk with " + b, x.chunk(0, 3), cells);
            due("cells of a line with " + b, x.line(0, 3), cells);
        }
    }

    private static void cellsByTheFirstByte() {
        Due.says("3 CELLS: a LETTER has 2, if it begins with a byte above 223, 0, if that is below 32, else 1; other"
            + " bytes have 0");
        letterCells(0, 31, 0);
        letterCells(32, 127, 1);
        letterCells(128, 191, 0);
        letterCells(192, 223, 1);
        letterCells(224, 255, 2);
        due("other bytes of a letter", with("\u00e0\u0080\u00bf").count(3), 2);
        due("the most", with("\u00ff".repeat(120)).count(3), 240);
    }

    private static void measuresOfPlaces() {
        Due.says("MEASURE of a PLACE: that of the bytes ahead of it");
        ChunkView x = with("\n\u00e2\u0080");
        int[][] ahead = {{0, 0, 0, 0}, {1, 1, 1, 0}, {2, 2, 1, 2}, {3, 2, 1, 2}};
        for (int p = 0; p < ahead.length; p++) {
            for (int to = 0; to < 4; to++) {
                due("tells(0, " + p + ", " + to + ")", x.tells(0, p, to), ahead[p][to]);
            }
        }
        for (int to = 0; to < 4; to++) {
            due("tells(0, 0, " + to + "), no bytes", new ChunkView().tells(0, 0, to), 0);
        }
    }

    private static void dueTold(String text, int from, int... places) {
        ChunkView x = with(text);
        due("of all by " + from, x.count(from), places.length - 1);
        for (int v = 0; v < places.length; v++) {
            due("tells(" + from + ", " + v + ", 0)", x.tells(from, v, 0), places[v]);
        }
        due("tells(" + from + ", -1, 0)", x.tells(from, -1, 0), BAD);
        due("tells(" + from + ", one more, 0)", x.tells(from, places.length, 0), BAD);
        due("tells(" + from + ", most, 0)", x.tells(from, Integer.MAX_VALUE, 0), BAD);
        due("tells(" + from + ", least, 0)", x.tells(from, Integer.MIN_VALUE, 0), BAD);
    }

    private static void placeByBytes() {
        Due.says("PLACE by a MEASURE v (no more than that of all): BYTES: v");
        dueTold("", 0, 0);
        dueTold("a", 0, 0, 1);
        dueTold("\u0080\n\u00e2\u0080", 0, 0, 1, 2, 3, 4);
    }

    private static void placeByLetters() {
        Due.says("LETTERS: ahead of LETTER v (0 the first; the end, if there are just v)");
        dueTold("", 1, 0);
        dueTold("a", 1, 0, 1);
        dueTold("a\u0080", 1, 0, 2);
        dueTold("\u0080\u0081a\u0080b", 1, 2, 4, 5);
        dueTold("\u0080\u0081", 1, 2);
        dueTold("\n\u0001\u0080", 1, 0, 1, 3);
    }

    private static void placeByEnds() {
        Due.says("ENDS: where LINE v begins");
        dueTold("", 2, 0);
        dueTold("a", 2, 0);
        dueTold("\n", 2, 0, 1);
        dueTold("\u0080\n\u0080\na", 2, 0, 2, 4);
        dueTold("ab\n", 2, 0, 3);
    }

    private static void placeByCells() {
        Due.says("CELLS: ahead of the first LETTER with which there are more than v CELLS (the end, if there is none)");
        dueTold("", 3, 0);
        dueTold("\u0001\u0080\n", 3, 3);
        dueTold("a\n", 3, 0, 2);
        dueTold("\n\u0080a\u0080\n", 3, 2, 5);
        dueTold("\u0001\u00e2\u0080\nb", 3, 1, 1, 4, 5);
        dueTold("a\u0080\u00e2", 3, 0, 2, 2, 3);
    }

    // ---- 2

    private static void noBytesNoChunks() {
        Due.says("CHUNKS: rows of 1 to 8 bytes, one behind the other (none, if there are no bytes)");
        ChunkView x = new ChunkView();
        due("count(6)", x.count(6), 0);
        due("chunk(0, 0)", x.chunk(0, 0), BAD);
        types(x, "a");
        x.edits(0, 0);
        Due.chunks("one byte", x, 1);
        x.edits(0, 1);
        due("count(6), taken out", x.count(6), 0);
        due("chunk(0, 0), taken out", x.chunk(0, 0), BAD);
    }

    private static void chunksHaveUpTo8() {
        Due.says("CHUNKS: rows of 1 to 8 bytes, one behind the other (none, if there are no bytes)");
        ChunkView x = new ChunkView();
        for (int size = 1; size <= 8; size++) {
            types(x, "a");
            x.edits(size - 1, 0);
            Due.chunks("bytes one by one", x, size);
        }
        types(x, "a");
        x.edits(8, 0);
        Due.chunks("a ninth", x, 5, 4);
        for (int size = 8; size >= 1; size--) {
            x.edits(size, 1);
        }
        Due.chunks("one is left", x, 1);
    }

    private static void chunksOf120() {
        Due.says("CHUNKS: rows of 1 to 8 bytes: 120 in the fewest, 120 in many");
        Due.chunks("in the fewest", with("x".repeat(120)), 8, 8, 8, 8, 8, 8, 8, 8, 8, 8, 8, 8, 8, 8, 8);
        ChunkView x = new ChunkView();
        for (int i = 0; i < 120; i++) {
            types(x, "x");
            x.edits(0, 0);
        }
        // The first one becomes 5 and 4 each time it would have 9, so that a 4 stays behind each time.
        due("in many: count(6)", x.count(6), 29);
        due("in many: the first", x.chunk(0, 0), 8);
        for (int k = 1; k < 29; k++) {
            due("in many: chunk(" + k + ", 0)", x.chunk(k, 0), 4);
        }
    }

    private static void putInBehindTheByteAhead() {
        Due.says("PUT IN: bytes come to a PLACE, into the CHUNK of the byte ahead of it");
        ChunkView x = with("x".repeat(24));
        types(x, "y");
        x.edits(8, 0);
        Due.chunks("behind the last byte of the first", x, 5, 4, 8, 8);
        x = with("x".repeat(24));
        types(x, "y");
        x.edits(9, 0);
        Due.chunks("behind the first byte of the second", x, 8, 5, 4, 8);
        x = with("x".repeat(24));
        types(x, "y");
        x.edits(24, 0);
        Due.chunks("at the end", x, 8, 8, 5, 4);
    }

    private static void putInAtPlace0() {
        Due.says("PUT IN: .. (the first CHUNK at PLACE 0; a new one, if there is none)");
        ChunkView x = with("123456789");
        types(x, "yz");
        x.edits(0, 0);
        Due.chunks("the first one at place 0", x, 7, 4);
        Due.text("the first one at place 0", x, "yz123456789");
        x.edits(0, 11);
        types(x, "123");
        x.edits(0, 0);
        Due.chunks("a new one", x, 3);
        types(x, "45");
        x.edits(0, 3);
        Due.chunks("a new one behind all taken out", x, 2);
    }

    private static void chunksAsFewAndAlike() {
        Due.says("has it more than 8 then, it becomes as few CHUNKS as can be, their sizes as alike as can be, greater"
            + " ones ahead");
        int[][] sizes = {
            {8}, {5, 4}, {5, 5}, {6, 5}, {6, 6}, {7, 6}, {7, 7}, {8, 7}, {8, 8}, {6, 6, 5}, {6, 6, 6}, {7, 6, 6},
            {7, 7, 6}, {7, 7, 7}, {8, 7, 7}, {8, 8, 7}, {8, 8, 8}};
        for (int i = 0; i < sizes.length; i++) {
            Due.chunks((8 + i) + " bytes", with("x".repeat(8 + i)), sizes[i]);
        }
        int[][] more = {
            {7, 6, 6, 6}, {7, 7, 6, 6}, {7, 7, 7, 6}, {7, 7, 7, 7}, {8, 7, 7, 7}, {8, 8, 7, 7}, {8, 8, 8, 7},
            {8, 8, 8, 8}};
        for (int i = 0; i < more.length; i++) {
            ChunkView x = with("x".repeat(1 + i));
            types(x, "y".repeat(24));
            x.edits(1, 0);
            Due.chunks((1 + i) + " bytes and 24 more", x, more[i]);
        }
    }

    private static void emptyChunksGo() {
        Due.says("TAKEN OUT: bytes from a PLACE on; CHUNKS without bytes go");
        ChunkView x = with("x".repeat(120));
        x.edits(8, 8);
        Due.chunks("all of one", x, 8, 8, 8, 8, 8, 8, 8, 8, 8, 8, 8, 8, 8, 8);
        x.edits(7, 98);
        Due.chunks("all of twelve", x, 7, 7);
        x = with("x".repeat(24));
        x.edits(7, 8);
        Due.chunks("a byte stays on each side", x, 8, 8);
        x = with("x".repeat(24));
        x.edits(0, 23);
        Due.chunks("all but the last byte", x, 1);
        x.edits(0, 1);
        Due.chunks("the last byte", x);
    }

    private static void chunksJoinUpTo8() {
        Due.says("the CHUNK of the byte ahead of the PLACE and the next one become one, if together they have 8 or"
            + " less");
        ChunkView x = with("x".repeat(16));
        x.edits(4, 8);
        Due.chunks("4 and 4", x, 8);
        x = with("x".repeat(16));
        x.edits(5, 7);
        Due.chunks("5 and 4", x, 5, 4);
        x = with("x".repeat(16));
        x.edits(1, 8);
        Due.chunks("1 and 7", x, 8);
        x = with("x".repeat(16));
        x.edits(1, 7);
        Due.chunks("1 and 8", x, 1, 8);
        x = with("123456789");
        x.edits(5, 1);
        Due.chunks("the place is between the two", x, 8);
        x = with("123456789");
        x.edits(6, 1);
        Due.chunks("the byte ahead is in the last one", x, 5, 3);
        x = with("123456789");
        x.edits(6, 3);
        Due.chunks("at the end: no next one", x, 5, 1);
    }

    private static void chunksJoinAtPlace0() {
        Due.says("the CHUNK of the byte ahead of the PLACE (the first one, if there is none ahead)");
        ChunkView x = with("123456789");
        x.edits(0, 1);
        Due.chunks("4 and 4", x, 8);
        x = with("x".repeat(10));
        x.edits(0, 1);
        Due.chunks("4 and 5", x, 4, 5);
        x.edits(0, 4);
        Due.chunks("the first one goes, no next one", x, 5);
        x = with("x".repeat(17));
        x.edits(0, 10);
        Due.chunks("the first one goes, the next ones join", x, 7);
    }

    // Chunks of 2, 2, 2: each was made when its next one had 8.
    private static ChunkView twos() {
        ChunkView x = with("x".repeat(24));
        x.edits(1, 6);
        x.edits(3, 6);
        x.edits(5, 6);
        return x;
    }

    private static void chunksJoinOnce() {
        Due.says("then, once, the CHUNK of the byte ahead .. and the next one become one");
        Due.chunks("to begin with", twos(), 2, 2, 2);
        ChunkView x = twos();
        x.edits(0, 1);
        Due.chunks("the first", x, 3, 2);
        x = twos();
        x.edits(3, 1);
        Due.chunks("the second", x, 2, 3);
        x = twos();
        x.edits(5, 1);
        Due.chunks("the last", x, 2, 2, 1);
        x = twos();
        x.edits(2, 2);
        Due.chunks("the second goes", x, 4);
    }

    private static void nothingTakenOutOrPutIn() {
        Due.says("(no bytes TAKEN OUT, PUT IN: nothing is done)");
        for (int p = 0; p <= 6; p++) {
            ChunkView x = twos();
            due("edits(" + p + ", 0), no tape", x.edits(p, 0), 6);
            Due.chunks("nothing at " + p, x, 2, 2, 2);
        }
        ChunkView x = twos();
        types(x, "y");
        x.edits(1, 0);
        Due.chunks("put in alone joins nothing", x, 3, 2, 2);
        x = new ChunkView();
        due("edits(0, 0), no bytes", x.edits(0, 0), 0);
        Due.chunks("no bytes", x);
        x = with("x".repeat(8));
        x.marks('a', 4);
        x.seeks(4);
        x.edits(4, 0);
        due("a mark there", x.mark('a'), 4);
        due("the reader there", x.count(8), 4);
    }

    private static void marksHaveNames() {
        Due.says("MARKS: names (a .. z) at PLACES (8 at most)");
        int[] none = {'a' - 1, 'z' + 1, 'A', 'Z', 0, 26, 'a' + 128, 'a' + 256, 'a' + 65536, -'a', Integer.MIN_VALUE};
        ChunkView x = with("abc");
        for (int name : none) {
            due("marks(" + name + ", 0)", x.marks(name, 0), BAD);
            due("lifts(" + name + ")", x.lifts(name), BAD);
            due("mark(" + name + ")", x.mark(name), BAD);
        }
        for (int name = 'a'; name <= 'z'; name++) {
            due("marks(" + name + ", 3)", x.marks(name, 3), NONE);
            due("mark(" + name + ")", x.mark(name), 3);
            due("next(0)", x.next(0), name);
            due("lifts(" + name + ")", x.lifts(name), 3);
        }
    }

    private static void marksAre8() {
        Due.says("MARKS: names (a .. z) at PLACES (8 at most)");
        ChunkView x = new ChunkView();
        for (int i = 0; i < 8; i++) {
            due("one more", x.marks('z' - i, 0), NONE);
            due("count(7)", x.count(7), i + 1);
        }
        for (int name = 'a'; name <= 'r'; name++) {
            due("a ninth: marks(" + name + ", 0)", x.marks(name, 0), FULL);
        }
        due("an eighth again", x.marks('s', 0), 0);
        due("count(7)", x.count(7), 8);
        due("lifts(s)", x.lifts('s'), 0);
        due("count(7), one less", x.count(7), 7);
        due("room for one", x.marks('a', 0), NONE);
        due("and no more", x.marks('s', 0), FULL);
    }

    private static void readerIsAt0() {
        Due.says("THE READER is at a PLACE (0 at first)");
        ChunkView x = new ChunkView();
        due("count(8)", x.count(8), 0);
        types(x, "abc");
        x.edits(0, 0);
        due("put in at it", x.count(8), 0);
        due("seeks(3)", x.seeks(3), 0);
        due("seeks(4)", x.seeks(4), BAD);
        due("seeks(-1)", x.seeks(-1), BAD);
        due("seeks(0)", x.seeks(0), 3);
    }

    // Where a place is behind an edit, told by a mark and by the reader.
    private static void dueGone(int p, Due.Call edit, int want) {
        ChunkView x = with("0123456789");
        x.marks('k', p);
        x.seeks(p);
        edit.on(x);
        due("a mark at " + p, x.mark('k'), want);
        due("the reader at " + p, x.count(8), want);
    }

    private static void dueAllGone(Due.Call edit, int... want) {
        for (int p = 0; p <= 10; p++) {
            dueGone(p, edit, want[p]);
        }
    }

    private static void placesWhenTakenOut() {
        Due.says("Bytes are TAKEN OUT: a PLACE among them, or behind them at once, becomes that ahead of them, one"
            + " farther behind goes along");
        dueAllGone(x -> x.edits(3, 3), 0, 1, 2, 3, 3, 3, 3, 4, 5, 6, 7);
        dueAllGone(x -> x.edits(3, 1), 0, 1, 2, 3, 3, 4, 5, 6, 7, 8, 9);
        dueAllGone(x -> x.edits(0, 1), 0, 0, 1, 2, 3, 4, 5, 6, 7, 8, 9);
        dueAllGone(x -> x.edits(9, 1), 0, 1, 2, 3, 4, 5, 6, 7, 8, 9, 9);
        dueAllGone(x -> x.edits(0, 10), 0, 0, 0, 0, 0, 0, 0, 0, 0, 0, 0);
        dueAllGone(x -> x.edits(5, 0), 0, 1, 2, 3, 4, 5, 6, 7, 8, 9, 10);
    }

    private static long putsIn(ChunkView x, int place, int n, String bytes) {
        types(x, bytes);
        return x.edits(place, n);
    }

    private static void placesWhenPutIn() {
        Due.says("Bytes are PUT IN: a PLACE farther behind goes along, that one itself stays");
        dueAllGone(x -> putsIn(x, 4, 0, "ab"), 0, 1, 2, 3, 4, 7, 8, 9, 10, 11, 12);
        dueAllGone(x -> putsIn(x, 0, 0, "a"), 0, 2, 3, 4, 5, 6, 7, 8, 9, 10, 11);
        dueAllGone(x -> putsIn(x, 10, 0, "abc"), 0, 1, 2, 3, 4, 5, 6, 7, 8, 9, 10);
        dueAllGone(x -> putsIn(x, 3, 3, "ab"), 0, 1, 2, 3, 3, 3, 3, 6, 7, 8, 9);
        dueAllGone(x -> putsIn(x, 0, 10, "abc"), 0, 0, 0, 0, 0, 0, 0, 0, 0, 0, 0);
    }

    private static void marksAllGoAlong() {
        Due.says("Bytes are PUT IN: a PLACE farther behind goes along: each of eight, to place 120");
        ChunkView x = with("x".repeat(96));
        int[] names = {'a', 'b', 'g', 'm', 'n', 'x', 'y', 'z'};
        for (int name : names) {
            x.marks(name, 96);
        }
        types(x, "y".repeat(24));
        due("edits(95, 0)", x.edits(95, 0), 120);
        for (int name : names) {
            due("mark(" + name + ")", x.mark(name), 120);
        }
        due("count(7)", x.count(7), 8);
        due("mark(c), none goes along", x.mark('c'), NONE);
        due("all taken out", x.edits(0, 120), 0);
        for (int name : names) {
            due("mark(" + name + "), no bytes", x.mark(name), 0);
        }
        due("count(7), no bytes", x.count(7), 8);
        due("next(0), no bytes", x.next(0), 'a');
        due("mark(c), none", x.mark('c'), NONE);
    }

    private static void tapeHasUpTo24() {
        Due.says("THE TAPE: up to 24 bytes");
        ChunkView x = new ChunkView();
        due("count(9)", x.count(9), 0);
        for (int i = 1; i <= 24; i++) {
            due("type", x.type(i), i);
        }
        due("a 25th", x.type(25), FULL);
        due("count(9)", x.count(9), 24);
        x.edits(0, 0);
        for (int p = 0; p < 24; p++) {
            due("at(" + p + ")", x.at(p), p + 1);
        }
        due("room again", x.type(1), 1);
    }

    private static void editsTakeSoMany() {
        Due.says("AN EDIT at a PLACE: so many bytes are TAKEN OUT there, then those of THE TAPE are PUT IN there");
        ChunkView x = with("0123456789");
        types(x, "ab");
        due("4, 7: one more than there are", x.edits(4, 7), BAD);
        due("4, -1", x.edits(4, -1), BAD);
        due("4, 6: all to the end", x.edits(4, 6), 6);
        Due.text("all to the end", x, "0123ab");
        due("6, 1 at the end", x.edits(6, 1), BAD);
        due("6, 0 at the end", x.edits(6, 0), 6);
        types(x, "xyz");
        due("0, 6: all", x.edits(0, 6), 3);
        Due.text("all", x, "xyz");
        due("1, most: the sum wraps around", x.edits(1, Integer.MAX_VALUE), BAD);
        due("3, most: the sum wraps around", x.edits(3, Integer.MAX_VALUE), BAD);
        due("0, least", x.edits(0, Integer.MIN_VALUE), BAD);
    }

    private static void editsTakeOutFirst() {
        Due.says("AN EDIT: .. TAKEN OUT there, then those of THE TAPE are PUT IN there");
        ChunkView x = with("123456789");
        types(x, "y");
        x.edits(5, 1);
        Due.chunks("5 and 3 join, then 9 are two", x, 5, 4);
        Due.text("5 and 3 join, then 9 are two", x, "12345y789");
        x = with("123456789");
        types(x, "y");
        x.edits(6, 1);
        Due.chunks("in the last one", x, 5, 4);
        types(x, "yz");
        x.edits(5, 2);
        Due.chunks("5 and 2 join, then 9 are two", x, 5, 4);
        types(x, "yz");
        x.edits(5, 4);
        Due.chunks("the last one goes, the first grows", x, 7);
    }

    private static void stagedAre4() {
        Due.says("STAGED: EDITS (4 at most), each with a TAPE of its own");
        ChunkView x = with("0123456789");
        due("count(10)", x.count(10), 0);
        int[] places = {7, 1, 9, 3};
        String[] tapes = {"A".repeat(24), "", "B", "C".repeat(23)};
        for (int i = 0; i < 4; i++) {
            types(x, tapes[i]);
            due("stages(" + places[i] + ", 0)", x.stages(places[i], 0), i + 1);
            due("count(9)", x.count(9), 0);
        }
        due("a fifth", x.stages(5, 0), FULL);
        due("count(10)", x.count(10), 4);
        due("does()", x.does(), 58);
        Due.text("does()", x, "012" + "C".repeat(23) + "3456" + "A".repeat(24) + "78B9");
        due("count(10), done", x.count(10), 0);
    }

    private static void stagedPlacesAreOfTheTextAhead() {
        Due.says("their PLACES, and what they take out, are those of THE TEXT ahead of all");
        ChunkView x = with("0123456789");
        types(x, "abc");
        due("stages(0, 1)", x.stages(0, 1), 1);
        due("stages(11, 0), no place of the text yet", x.stages(11, 0), BAD);
        due("stages(10, 0), still a place", x.stages(10, 0), 2);
        due("stages(5, 2)", x.stages(5, 2), 3);
        due("stages(8, 2), touches 10", x.stages(8, 2), STATE);
        due("stages(8, 3), more than there are", x.stages(8, 3), BAD);
        due("stages(8, 1)", x.stages(8, 1), 4);
        due("count(0), nothing is done", x.count(0), 10);
        due("does()", x.does(), 9);
        Due.text("does()", x, "abc123479");
    }

    // One edit waits from 5 to 8; does another one touch it?
    private static void dueTouch(int place, int n, int want) {
        ChunkView x = with("0123456789abcdef");
        x.stages(5, 3);
        due("stages(" + place + ", " + n + ") by 5 .. 8", x.stages(place, n), want);
    }

    private static void stagedDoNotTouch() {
        Due.says("no two of them touch (the PLACES from where one begins to where it ends have none of the other's)");
        dueTouch(0, 4, 2);
        dueTouch(0, 5, STATE);
        dueTouch(4, 0, 2);
        dueTouch(4, 1, STATE);
        dueTouch(5, 0, STATE);
        dueTouch(5, 3, STATE);
        dueTouch(6, 0, STATE);
        dueTouch(6, 1, STATE);
        dueTouch(8, 0, STATE);
        dueTouch(8, 4, STATE);
        dueTouch(9, 0, 2);
        dueTouch(9, 7, 2);
        dueTouch(0, 16, STATE);
        dueTouch(4, 5, STATE);
    }

    private static void stagedOfNothingTouch() {
        Due.says("no two of them touch: edits that take nothing out are at one PLACE");
        ChunkView x = new ChunkView();
        due("stages(0, 0), no bytes", x.stages(0, 0), 1);
        due("stages(0, 0) again", x.stages(0, 0), STATE);
        x = with("ab");
        due("stages(1, 0)", x.stages(1, 0), 1);
        due("stages(1, 0) again", x.stages(1, 0), STATE);
        due("stages(0, 1), ends at 1", x.stages(0, 1), STATE);
        due("stages(1, 1), begins at 1", x.stages(1, 1), STATE);
        due("stages(0, 0)", x.stages(0, 0), 2);
        due("stages(2, 0)", x.stages(2, 0), 3);
        due("each of them is looked at: 0", x.stages(0, 0), STATE);
        due("each of them is looked at: 2", x.stages(2, 0), STATE);
    }

    private static void doneFromTheLast() {
        Due.says("DONE: all of them, from the last PLACE to the first");
        for (int first = 0; first < 2; first++) {
            ChunkView x = with("x".repeat(16));
            types(x, first == 0 ? "aaaa" : "bbbb");
            x.stages(first == 0 ? 4 : 7, 0);
            types(x, first == 0 ? "bbbb" : "aaaa");
            x.stages(first == 0 ? 7 : 4, 0);
            due("does()", x.does(), 24);
            // 8 and 4 at place 7 become 6, 6; then 6 and 4 at place 4 become 5, 5.
            Due.chunks("does()", x, 5, 5, 6, 8);
            Due.text("does()", x, "xxxxaaaaxxxbbbbxxxxxxxxx");
        }
    }

    private static void undoneAtTheFirst() {
        Due.says("UNDONE: the latest edits(), does() that was not refused");
        ChunkView x = new ChunkView();
        due("count(11)", x.count(11), 0);
        due("undo(), none", x.undo(), STATE);
        x.edits(1, 0);
        x.does();
        types(x, "a");
        x.stages(0, 0);
        x.edits(0, 0);
        due("refused ones are not known", x.count(11), 0);
        x.does();
        due("does() is known", x.count(11), 1);
        x.edits(1, 0);
        due("edits() is known, if it does nothing too", x.count(11), 2);
        x.marks('a', 1);
        x.seeks(1);
        x.keep(0);
        due("marks(), seeks(), keep() are not", x.count(11), 2);
        due("undo() of edits()", x.undo(), 1);
        Due.text("undo() of edits()", x, "a");
        due("undo() of does()", x.undo(), 0);
        Due.text("undo() of does()", x, "");
        due("undo(), none more", x.undo(), STATE);
    }

    private static void undone8() {
        Due.says("UNDONE: .. (8 are known, older ones are lost)");
        ChunkView x = new ChunkView();
        for (int i = 1; i <= 10; i++) {
            types(x, "a");
            x.edits(0, 0);
            due("count(11) behind " + i, x.count(11), Math.min(i, 8));
        }
        for (int left = 7; left >= 0; left--) {
            due("undo()", x.undo(), left);
            due("count(11)", x.count(11), left);
            due("count(0)", x.count(0), left + 2);
        }
        due("a ninth", x.undo(), STATE);
        due("count(0), the oldest known", x.count(0), 2);
    }

    // Puts one byte in and notes how many there are; undo goes back along these notes.
    private static void undoneGoesAround() {
        Due.says("UNDONE: .. (8 are known, older ones are lost): undone and done again, many times");
        ChunkView x = new ChunkView();
        int size = 0;
        int known = 0;
        int[] ups = {5, 7, 1, 8, 9, 3};
        int[] downs = {3, 6, 1, 2, 8, 3};
        for (int turn = 0; turn < ups.length; turn++) {
            for (int i = 0; i < ups[turn]; i++) {
                types(x, "a");
                size++;
                known = Math.min(known + 1, 8);
                due("edits", x.edits(0, 0), size);
            }
            for (int i = 0; i < downs[turn]; i++) {
                size--;
                known--;
                due("undo", x.undo(), known);
                due("count(0)", x.count(0), size);
            }
        }
        due("size at the end", size, 10);
    }

    private static void undoneBringsBack() {
        Due.says("UNDONE: ..: bytes, CHUNKS, MARKS, THE READER");
        ChunkView x = twos();
        x.marks('a', 0);
        x.marks('k', 5);
        x.marks('z', 6);
        x.seeks(4);
        long digest = x.digest();
        types(x, "\n\u00e2\n");
        x.edits(0, 6);
        x.lifts('k');
        x.marks('b', 2);
        x.seeks(1);
        types(x, "tape");
        due("undo()", x.undo(), 4);
        due("digest()", x.digest(), digest);
        Due.text("undo()", x, "xxxxxx");
        Due.chunks("undo()", x, 2, 2, 2);
        due("mark(a)", x.mark('a'), 0);
        due("mark(k)", x.mark('k'), 5);
        due("mark(z)", x.mark('z'), 6);
        due("mark(b)", x.mark('b'), NONE);
        due("the reader", x.count(8), 4);
        due("the tape stays", x.count(9), 4);
        due("lines", x.count(4), 1);
        due("wide(0)", x.wide(0), 0);
        due("cells", x.count(5), 6);
    }

    // ---- 3

    private static void wideByCells() {
        Due.says("WIDE: LINES by CELLS, the most first, of like ones the lower first");
        due("wide(0), no bytes", new ChunkView().wide(0), 0);
        due("wide(1), no bytes", new ChunkView().wide(1), BAD);
        ChunkView x = with("\u0001\u0080\n\na\n\u00e0\nbc\n\u00ff\n");
        int[] order = {3, 4, 5, 2, 0, 1, 6};
        for (int k = 0; k < 7; k++) {
            due("wide(" + k + ")", x.wide(k), order[k]);
        }
        due("wide(7)", x.wide(7), BAD);
        due("wide(-1)", x.wide(-1), BAD);
        x = with("\n".repeat(120));
        for (int k = 0; k <= 120; k++) {
            due("wide(" + k + ") of like ones", x.wide(k), k);
        }
        due("wide(121)", x.wide(121), BAD);
        x = with("a\n".repeat(59) + "ab");
        due("the last one is the widest", x.wide(0), 59);
        due("the first one is next", x.wide(1), 0);
        due("the last of like ones", x.wide(59), 58);
    }

    private static void readerReads() {
        Due.says("THE READER READS the LETTER at it (the first byte of it; other bytes go along), and is behind it");
        ChunkView x = with("\u0080\u0081\n\u0082a\u0083\u0084\u0085\u00e2\u0086");
        int[] first = {0x80, 10, 'a', 0xe2, NONE, NONE};
        int[] behind = {2, 4, 8, 10, 10, 10};
        for (int i = 0; i < first.length; i++) {
            due("reads() " + i, x.reads(), first[i]);
            due("the reader " + i, x.count(8), behind[i]);
        }
        due("reads(), no bytes", new ChunkView().reads(), NONE);
        due("seeks(8)", x.seeks(8), 10);
        due("reads() at the last letter", x.reads(), 0xe2);
        x.edits(8, 2);
        due("the reader at the new end", x.count(8), 8);
        due("reads() at the new end", x.reads(), NONE);
        types(x, "b");
        x.edits(8, 0);
        due("reads() what was put in at the end", x.reads(), 'b');
        due("reads() at the end again", x.reads(), NONE);
    }

    private static void readerReadsAll() {
        Due.says("THE READER READS the LETTER at it ..: 120 letters, one of 120 bytes");
        ChunkView x = with("\u00ff".repeat(119) + "z");
        for (int p = 1; p <= 119; p++) {
            due("reads()", x.reads(), 255);
            due("the reader", x.count(8), p);
        }
        due("reads() the last", x.reads(), 'z');
        due("reads() at the end", x.reads(), NONE);
        due("the reader", x.count(8), 120);
        x = with("\u00c0" + "\u00bf".repeat(119));
        due("reads() one of 120", x.reads(), 0xc0);
        due("reads() at the end", x.reads(), NONE);
    }

    private static void nextOfAPlace() {
        Due.says("NEXT of a PLACE: the MARK at the nearest PLACE that is no less, of several the first by name");
        ChunkView x = with("0123456789");
        for (int p = 0; p <= 10; p++) {
            due("next(" + p + "), no marks", x.next(p), NONE);
        }
        x.marks('y', 4);
        x.marks('z', 4);
        x.marks('x', 5);
        x.marks('a', 7);
        x.marks('b', 7);
        int[] next = {'y', 'y', 'y', 'y', 'y', 'x', 'a', 'a', NONE, NONE, NONE};
        for (int p = 0; p <= 10; p++) {
            due("next(" + p + ")", x.next(p), next[p]);
        }
        x.marks('m', 0);
        x.marks('q', 10);
        due("next(0)", x.next(0), 'm');
        due("next(1)", x.next(1), 'y');
        due("next(8)", x.next(8), 'q');
        due("next(10), the end", x.next(10), 'q');
        due("next(11)", x.next(11), BAD);
        due("next(-1)", x.next(-1), BAD);
        ChunkView empty = new ChunkView();
        empty.marks('z', 0);
        due("next(0), no bytes", empty.next(0), 'z');
    }

    private static void imagesAreTwo() {
        Due.says("IMAGES 0, 1 keep bytes, CHUNKS, MARKS, THE READER");
        ChunkView x = twos();
        x.marks('a', 6);
        x.seeks(3);
        long digest = x.digest();
        due("keep(0)", x.keep(0), 6);
        types(x, "yy");
        x.edits(0, 3);
        x.lifts('a');
        x.marks('b', 1);
        x.seeks(5);
        due("keep(1)", x.keep(1), 5);
        long other = x.digest();
        for (int image : new int[] {-1, 2, 256, Integer.MIN_VALUE, Integer.MAX_VALUE}) {
            due("keep(" + image + ")", x.keep(image), BAD);
            due("back(" + image + ")", x.back(image), BAD);
        }
        x.edits(0, 5);
        due("back(0)", x.back(0), 6);
        due("digest() of 0", x.digest(), digest);
        due("mark(a) of 0", x.mark('a'), 6);
        due("mark(b) of 0", x.mark('b'), NONE);
        due("the reader of 0", x.count(8), 3);
        due("back(1)", x.back(1), 5);
        due("digest() of 1", x.digest(), other);
        due("the reader of 1", x.count(8), 5);
        x.marks('c', 0);
        x.edits(0, 1);
        due("back(1), an image is not changed with the text", x.back(1), 5);
        due("digest() of 1 again", x.digest(), other);
    }

    private static void imagesOfNothingAndAll() {
        Due.says("IMAGES 0, 1 keep bytes ..: none of them, 120 of them");
        ChunkView x = new ChunkView();
        due("keep(0), no bytes", x.keep(0), 0);
        due("back(1), none was kept", x.back(1), STATE);
        due("back(0), no bytes", x.back(0), 0);
        x = with("\n".repeat(120));
        due("keep(1), 120", x.keep(1), 120);
        due("back(0), none was kept", x.back(0), STATE);
        x.edits(0, 119);
        due("back(1), 120", x.back(1), 120);
        due("lines", x.count(4), 121);
        due("chunks", x.count(6), 15);
        types(x, "y");
        due("still full", x.edits(0, 0), FULL);
    }

    private static void imagesKeepNothingElse() {
        Due.says("nothing else (nothing can be UNDONE behind back(), nothing is STAGED)");
        ChunkView x = Made.crowded();
        due("keep(0)", x.keep(0), 120);
        due("known, kept", x.count(11), 8);
        due("staged, kept", x.count(10), 4);
        due("tape, kept", x.count(9), 24);
        due("back(0)", x.back(0), 120);
        due("known", x.count(11), 0);
        due("staged", x.count(10), 0);
        due("undo()", x.undo(), STATE);
        due("does()", x.does(), STATE);
        due("the tape stays", x.count(9), 24);
        due("what was staged touches no more", x.stages(0, 24), 1);
        x.drops();
        x.clear();
        due("edits()", x.edits(0, 1), 119);
        due("undo() of what came behind back()", x.undo(), 0);
        due("the other image stays", x.back(1), 120);
        due("its marks", x.count(7), 0);
    }

    public static void main(String[] args) {
        objectTakes512Calls();
        textIsEmptyAtFirst();
        textHasEveryByte();
        textHasUpTo120();
        textTakesAsMuchAsGoesOut();
        placesGoToTheEnd();
        placesHaveSoManyAhead();
        lettersBegin();
        lettersOfManyBytes();
        linesEnd();
        linesBegin();
        linesAtTheMost();
        cellsByTheFirstByte();
        measuresOfPlaces();
        placeByBytes();
        placeByLetters();
        placeByEnds();
        placeByCells();
        noBytesNoChunks();
        chunksHaveUpTo8();
        chunksOf120();
        putInBehindTheByteAhead();
        putInAtPlace0();
        chunksAsFewAndAlike();
        emptyChunksGo();
        chunksJoinUpTo8();
        chunksJoinAtPlace0();
        chunksJoinOnce();
        nothingTakenOutOrPutIn();
        marksHaveNames();
        marksAre8();
        readerIsAt0();
        placesWhenTakenOut();
        placesWhenPutIn();
        marksAllGoAlong();
        tapeHasUpTo24();
        editsTakeSoMany();
        editsTakeOutFirst();
        stagedAre4();
        stagedPlacesAreOfTheTextAhead();
        stagedDoNotTouch();
        stagedOfNothingTouch();
        doneFromTheLast();
        undoneAtTheFirst();
        undone8();
        undoneGoesAround();
        undoneBringsBack();
        wideByCells();
        readerReads();
        readerReadsAll();
        nextOfAPlace();
        imagesAreTwo();
        imagesOfNothingAndAll();
        imagesKeepNothingElse();
        Due.ends();
    }
}
