/** Objects to begin a test with, and bytes for their tapes. */
final class Made {
    private Made() {
    }

    static void types(ChunkView x, int... bytes) {
        for (int b : bytes) {
            x.type(b);
        }
    }

    static void types(ChunkView x, String bytes) {
        types(x, bytes.chars().toArray());
    }

    /** An object whose text is this one, put in at its end in pieces that a tape can hold. */
    static ChunkView with(String text) {
        ChunkView x = new ChunkView();
        for (int from = 0; from < text.length(); from += 24) {
            types(x, text.substring(from, Math.min(from + 24, text.length())));
            x.edits(from, 0);
        }
        return x;
    }

    /** Something of everything: 17 bytes in 4 lines and chunks of 8, 5, 4; 3 marks, a tape of 2, image 0, 3 known. */
    static ChunkView rich() {
        ChunkView x = with("older");
        x.marks('z', 2);
        x.keep(0);
        types(x, "ab\n\u00e2\u0082\u00accd\n\nefg\u00c3\u00a4h");
        x.edits(0, 5);
        x.marks('c', 3);
        x.marks('m', 16);
        x.seeks(6);
        types(x, "!");
        x.edits(16, 0);
        types(x, "tp");
        return x;
    }

    /** The same with two staged edits, from place 4 to 6 and at place 10, and a new tape of 2. */
    static ChunkView richStaged() {
        ChunkView x = rich();
        x.stages(4, 2);
        types(x, "q");
        x.stages(10, 0);
        types(x, "uv");
        return x;
    }

    /**
     * As many of everything as there may be: 120 bytes in 121 lines, a tape of 24, 8 marks (a .. h), 8 known, both
     * images, and 4 staged edits (0 to 24, at 30, 40 to 50, 119 to 120), with which there would be 110 bytes.
     */
    static ChunkView crowded() {
        ChunkView x = with("\n".repeat(120));
        x.keep(1);
        for (int i = 0; i < 8; i++) {
            x.marks('a' + i, 15 * i);
            x.edits(8 * i, 0);
        }
        x.seeks(120);
        x.keep(0);
        types(x, "a".repeat(24));
        x.stages(0, 24);
        types(x, "b");
        x.stages(30, 0);
        x.stages(40, 10);
        x.stages(119, 1);
        types(x, "c".repeat(24));
        return x;
    }
}
