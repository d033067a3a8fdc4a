/** What the tests have in common: the document's constants, told a second time, and how an answer is held against what is due. */
abstract class Checks {
    static final int REFUSED = -1;
    static final int FULL = -2;
    static final long ABSENT = 10000000000L;
    static final long DIRECTORY = 10000000001L;
    static final long GONE = 10000000002L;
    static final long NONE = 10000000003L;

    static final int WRITE = 0;
    static final int MAKE = 1;
    static final int REMOVE = 2;
    static final int COPY = 3;
    static final int MOVE = 4;

    static final int LOW = Integer.MIN_VALUE;
    static final int HIGH = Integer.MAX_VALUE;
    static final int[] WRONG_STORES = {LOW, -2, -1, 2, 3, HIGH};
    static final int[] WRONG_TAGS = {LOW, -2, -1, 6, 7, HIGH};
    static final int[] WRONG_PATHS = {LOW, -125, -25, -1, 125, 126, 150, HIGH};

    private static int wrong = 0;
    private static String about = "";

    /** One sentence of the document and the test of its own that it has. */
    static void sentence(String words, Runnable test) {
        about = words;
        test.run();
        about = "";
    }

    static void due(String call, long got, long want) {
        if (got != want) {
            wrong++;
            System.out.println(call + " answered " + got + ", due is " + want + told());
        }
    }

    static void due(String call, boolean got, boolean want) {
        due(call, got ? 1L : 0L, want ? 1L : 0L);
    }

    static void due(String call, String got, String want) {
        if (!got.equals(want)) {
            wrong++;
            System.out.println(call + ":\n  " + got + "\ndue is\n  " + want + told());
        }
    }

    private static String told() {
        return about.isEmpty() ? "" : " [" + about + "]";
    }

    /** The paths present in the tree of the image, by rising path, are just these, each with its mark. */
    static void dueTree(String where, ImageStores x, int image, long... pathsAndMarks) {
        int path = 0;
        for (int i = 0; i < pathsAndMarks.length; i += 2) {
            path = x.next(image, path);
            due(where + ": present path", path, pathsAndMarks[i]);
            due(where + ": look at " + path, x.look(image, path), pathsAndMarks[i + 1]);
            if (path < 0 || path > 124) {
                return;
            }
        }
        due(where + ": behind the last path", x.next(image, path), 125);
    }

    static void dueLayer(String where, ImageStores x, int image, int layer, long... pathsAndMarks) {
        due(where + ": entries", x.entries(image, layer), pathsAndMarks.length / 2);
        for (int i = 0; i < pathsAndMarks.length; i += 2) {
            due(where + ": path of entry " + i / 2, x.entryPath(image, layer, i / 2), pathsAndMarks[i]);
            due(where + ": mark of entry " + i / 2, x.entryMark(image, layer, i / 2), pathsAndMarks[i + 1]);
        }
    }

    /** The layer that an image has above its parent's. */
    static void dueTopLayer(String where, ImageStores x, int image, long... pathsAndMarks) {
        dueLayer(where, x, image, x.layers(image) - 1, pathsAndMarks);
    }

    /** Forty images, each built on the one before, each layer a single file. */
    static ImageStores filled() {
        ImageStores x = new ImageStores();
        for (int i = 0; i < 39; i++) {
            due("image " + (i + 1), x.build(i, WRITE, 25 + 25 * (i % 4), i), i + 1);
        }
        return x;
    }

    /** Ends the test with exit code 1 if an answer was not as due. */
    static void finish(String name) {
        System.out.println(name + (wrong == 0 ? ": all answers are as due" : ": " + wrong + " answers are not as due"));
        if (wrong != 0) {
            System.exit(1);
        }
    }
}
