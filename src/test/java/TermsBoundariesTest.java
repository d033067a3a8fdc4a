/** Each sentence of the document's "What it is" and "Terms", but for the steps, that names a boundary case. */
public final class TermsBoundariesTest extends Checks {
    private static final int LEGAL_PATHS = 84;

    public static void main(String[] args) {
        calls();
        paths();
        trees();
        layersAndEntries();
        images();
        stores();
        finish("boundaries of the terms");
    }

    private static void calls() {
        sentence("An object is used for at most 512 calls after it has been made",
                TermsBoundariesTest::the512thCallAnswers);
        sentence("what later calls answer is free (but none throws)",
                TermsBoundariesTest::laterCallsEnd);
    }

    private static void paths() {
        sentence("The root 0, and 1 .. 124", TermsBoundariesTest::numbersOfPaths);
        sentence("the path p stands for the names p / 25, p / 5 % 5 and p % 5",
                TermsBoundariesTest::namesOfPaths);
        sentence("in which 0 means no name", TermsBoundariesTest::missingNames);
        sentence("a path is LEGAL if behind a missing name no name follows",
                TermsBoundariesTest::aNameBehindAMissingOne);
        sentence("and it is not 0", TermsBoundariesTest::theRootIsNotLegal);
        sentence("A path lies BELOW another if it has all its names and more",
                TermsBoundariesTest::firstAndLastBelow);
        sentence("below the root: every legal path", TermsBoundariesTest::everyLegalPathPresent);
        sentence("its PARENT is the path with one name less", TermsBoundariesTest::parentIsOneNameLess);
    }

    private static void trees() {
        sentence("The root is a directory.", TermsBoundariesTest::theRootStaysADirectory);
        sentence("a FILE with a content (any int)", TermsBoundariesTest::anyIntIsAContent);
        sentence("the parent of what is not absent is a directory",
                TermsBoundariesTest::parentsAreDirectories);
    }

    private static void layersAndEntries() {
        sentence("a list of ENTRIES, at most one a path, by rising path", TermsBoundariesTest::risingPaths);
        sentence("an entry DIRECTORY for a path that is a directory in the second and none in the first",
                TermsBoundariesTest::entriesOfDirectories);
        sentence("an entry FILE with the content for a path that is a file in the second and no file of this content in the first",
                TermsBoundariesTest::entriesOfFiles);
        sentence("an entry GONE for a path that is absent in the second, not in the first",
                TermsBoundariesTest::entriesOfWhatIsGone);
        sentence("and whose parent is a directory (or the root) in the second",
                TermsBoundariesTest::goneBelowWhatStays);
        sentence("Layers with the same entries are the SAME layer.", TermsBoundariesTest::sameLayers);
    }

    private static void images() {
        sentence("Image 0 has no layers", TermsBoundariesTest::noLayersOfImage0);
        sentence("its tree is the root alone", TermsBoundariesTest::bareTreeOfImage0);
        sentence("Every other image has a parent image and a tree that is not the parent's tree",
                TermsBoundariesTest::neverTheTreeOfTheParent);
        sentence("its layers are the parent's layers and then the one from the parent's tree to its own",
                TermsBoundariesTest::theLongestChain);
        sentence("Layers are counted from 0, the lowest first.", TermsBoundariesTest::lowestLayerFirst);
        sentence("Two images with the same parent and tree are one image.",
                TermsBoundariesTest::sameParentAndTree);
        sentence("A new image gets the next number", TermsBoundariesTest::nextNumber);
        sentence("there are at most 40 images, the image 0 among them", TermsBoundariesTest::fortyImages);
        sentence("An image made once keeps its number for ever and can always be looked at.",
                TermsBoundariesTest::imagesForEver);
    }

    private static void stores() {
        sentence("STORES 0 (the builder's) and 1.", TermsBoundariesTest::twoStores);
        sentence("A store HOLDS images, image 0 always", TermsBoundariesTest::image0IsAlwaysHeld);
        sentence("it holds the layers of the images that it holds, the same layer once",
                TermsBoundariesTest::theSameLayerOnce);
        sentence("Each has tags 0 .. 5", TermsBoundariesTest::sixTags);
        sentence("which name an image that the store holds", TermsBoundariesTest::tagsNameWhatIsHeld);
        sentence("or none (at first)", TermsBoundariesTest::noneAtFirst);
    }

    // What it is

    private static void the512thCallAnswers() {
        ImageStores x = new ImageStores();
        for (int i = 0; i < 39; i++) {
            x.build(i, WRITE, 25 + 25 * (i % 4), i);
        }
        for (int i = 39; i < 511; i++) {
            due("call " + (i + 1), x.build(38, WRITE, 75, 38), 39);
        }
        due("call 512", x.count(5), 472);
        ImageStores y = new ImageStores();
        for (int i = 0; i < 511; i++) {
            y.flatten(0);
        }
        due("call 512", y.build(0, WRITE, 25, 1), 1);
    }

    private static void laterCallsEnd() {
        ImageStores x = filled();
        for (int i = 0; i < 2000; i++) {
            x.build(i % 50, i % 5, i % 125, i % 130);
            x.send(i % 2, i % 6);
            x.tag(i % 2, i % 6, i % 40);
            x.collect(i % 7);
        }
    }

    // PATHS

    private static void numbersOfPaths() {
        ImageStores x = new ImageStores();
        due("look at 0", x.look(0, 0), DIRECTORY);
        due("look at 1", x.look(0, 1), ABSENT);
        due("look at 124", x.look(0, 124), ABSENT);
        due("next from 124", x.next(0, 124), 125);
        due("WRITE at 124", x.build(0, WRITE, 124, 1), 1);
        for (int path : WRONG_PATHS) {
            due("look at " + path, x.look(1, path), NONE);
            due("next from " + path, x.next(1, path), REFUSED);
            due("WRITE at " + path, x.build(1, WRITE, path, 1), REFUSED);
        }
    }

    private static void namesOfPaths() {
        for (int path = 25; path <= 124; path++) {
            if (path / 5 % 5 != 0 && path % 5 != 0) {
                ImageStores x = new ImageStores();
                x.build(0, WRITE, path, path);
                dueTree("WRITE at three names", x, 1,
                        path / 25 * 25, DIRECTORY, path / 5 * 5, DIRECTORY, path, path);
            }
        }
    }

    private static void missingNames() {
        for (int first = 25; first <= 100; first += 25) {
            ImageStores x = new ImageStores();
            x.build(0, WRITE, first, 1);
            dueTree("WRITE at one name", x, 1, first, 1);
            for (int path = first + 5; path <= first + 20; path += 5) {
                ImageStores y = new ImageStores();
                y.build(0, WRITE, path, 2);
                dueTree("WRITE at two names", y, 1, first, DIRECTORY, path, 2);
            }
        }
    }

    private static boolean hasNameBehindMissing(int path) {
        boolean first = path / 25 == 0 && path != 0;
        boolean second = path / 5 % 5 == 0 && path % 5 != 0;
        return first || second;
    }

    private static void aNameBehindAMissingOne() {
        int notLegal = 0;
        for (int path = 1; path <= 124; path++) {
            int wanted = hasNameBehindMissing(path) ? REFUSED : 2;
            notLegal += wanted == REFUSED ? 1 : 0;
            due("WRITE at " + path, onAFile(path).build(1, WRITE, path, 2), wanted);
            due("MAKE at " + path, onAFile(path).build(1, MAKE, path, 2), wanted);
            boolean atTop = path % 25 == 0;
            due("COPY to " + path, onAFile(path).build(1, COPY, path < 50 ? 50 : 25, path), atTop ? wanted : REFUSED);
        }
        due("paths not legal", notLegal, 124 - LEGAL_PATHS);
    }

    /** A file at a first name that is none of the path's. */
    private static ImageStores onAFile(int path) {
        ImageStores x = new ImageStores();
        x.build(0, WRITE, path < 50 ? 50 : 25, 1);
        return x;
    }

    private static void theRootIsNotLegal() {
        ImageStores x = new ImageStores();
        x.build(0, MAKE, 25, 0);
        for (int step = WRITE; step <= MOVE; step++) {
            due("step " + step + " at the root", x.build(1, step, 0, 50), REFUSED);
            due("step " + step + " at the root of image 0", x.build(0, step, 0, 50), REFUSED);
        }
        due("COPY to the root", x.build(1, COPY, 25, 0), REFUSED);
        due("MOVE to the root", x.build(1, MOVE, 25, 0), REFUSED);
    }

    private static void firstAndLastBelow() {
        ImageStores x = new ImageStores();
        int[] files = {49, 56, 59, 61, 74, 75};
        for (int i = 0; i < files.length; i++) {
            x.build(i, WRITE, files[i], i);
        }
        due("REMOVE of one name", x.build(6, REMOVE, 50, 0), 7);
        dueTree("REMOVE of one name", x, 7, 25, DIRECTORY, 45, DIRECTORY, 49, 0, 75, 5);
        due("REMOVE of two names", x.build(6, REMOVE, 55, 0), 8);
        dueTree("REMOVE of two names", x, 8, 25, DIRECTORY, 45, DIRECTORY, 49, 0,
                50, DIRECTORY, 60, DIRECTORY, 61, 3, 70, DIRECTORY, 74, 4, 75, 5);
        due("REMOVE of three names", x.build(6, REMOVE, 59, 0), 9);
        dueTree("REMOVE of three names", x, 9, 25, DIRECTORY, 45, DIRECTORY, 49, 0,
                50, DIRECTORY, 55, DIRECTORY, 56, 1, 60, DIRECTORY, 61, 3, 70, DIRECTORY, 74, 4, 75, 5);
        due("REMOVE of the last of the parent's", x.build(6, REMOVE, 70, 0), 10);
        dueTree("REMOVE of the last of the parent's", x, 10, 25, DIRECTORY, 45, DIRECTORY, 49, 0,
                50, DIRECTORY, 55, DIRECTORY, 56, 1, 59, 2, 60, DIRECTORY, 61, 3, 75, 5);
    }

    /** Image 19 has all paths that are legal, those of three names as files. */
    private static ImageStores withEveryPath() {
        ImageStores x = new ImageStores();
        int image = 0;
        for (int i = 0; i < 16; i++) {
            image = x.build(image, WRITE, 25 + 5 * (1 + i / 4) + 1 + i % 4, i);
        }
        for (int first = 50; first <= 100; first += 25) {
            image = x.build(image, COPY, 25, first);
        }
        due("the image with every path", image, 19);
        return x;
    }

    private static void everyLegalPathPresent() {
        ImageStores x = withEveryPath();
        int path = 0;
        for (int wanted = 1; wanted <= 124; wanted++) {
            if (!hasNameBehindMissing(wanted)) {
                path = x.next(19, path);
                due("present path", path, wanted);
            }
        }
        due("behind the last", x.next(19, path), 125);
        due("flattened", x.flatten(19), 20);
        due("entries of every path", x.entries(20, 0), LEGAL_PATHS);
        due("path of the first", x.entryPath(20, 0, 0), 25);
        due("path of the last", x.entryPath(20, 0, LEGAL_PATHS - 1), 124);
        due("mark of the last", x.entryMark(20, 0, LEGAL_PATHS - 1), 15);
        due("behind the last", x.entryPath(20, 0, LEGAL_PATHS), REFUSED);
        for (int first = 25; first <= 100; first += 25) {
            due("REMOVE", x.build(x.count(0) - 1, REMOVE, first, 0), 20 + first / 25);
        }
        dueTree("all removed", x, 24);
    }

    private static void parentIsOneNameLess() {
        ImageStores x = new ImageStores();
        x.build(0, WRITE, 25, 1);
        x.build(1, MAKE, 70, 0);
        due("COPY to one name, below the root", x.build(2, COPY, 25, 100), 3);
        due("COPY to two names, below one", x.build(2, COPY, 25, 65), 4);
        due("COPY to three names, below two", x.build(2, COPY, 25, 71), 5);
        due("COPY to three names, below two", x.build(2, COPY, 25, 74), 6);
        due("COPY below two names that are absent", x.build(2, COPY, 25, 69), REFUSED);
        due("COPY below one name that is absent", x.build(2, COPY, 25, 95), REFUSED);
    }

    // TREES

    private static void theRootStaysADirectory() {
        ImageStores x = new ImageStores();
        x.build(0, WRITE, 25, 1);
        x.build(1, REMOVE, 25, 0);
        for (int image = 0; image <= 2; image++) {
            due("root of image " + image, x.look(image, 0), DIRECTORY);
        }
    }

    private static void anyIntIsAContent() {
        int[] contents = {LOW, LOW + 1, -2, -1, 0, 1, 40, 124, HIGH - 1, HIGH,
            (int) ABSENT, (int) DIRECTORY, (int) GONE, (int) NONE};
        for (int content : contents) {
            ImageStores x = new ImageStores();
            due("WRITE of " + content, x.build(0, WRITE, 25, content), 1);
            due("look at " + content, x.look(1, 25), content);
            due("entry of " + content, x.entryMark(1, 0, 0), content);
            due("WRITE of " + content + " again", x.build(1, WRITE, 25, content), 1);
            due("WRITE of another than " + content, x.build(1, WRITE, 25, content + 1), 2);
            due("look at another than " + content, x.look(2, 25), content + 1);
            due("file below the file of " + content, x.build(1, WRITE, 30, 1), REFUSED);
            due("COPY of " + content, x.build(1, COPY, 25, 50), 3);
            due("look at the copy of " + content, x.look(3, 50), content);
        }
    }

    private static void parentsAreDirectories() {
        for (int path = 25; path <= 124; path++) {
            if (!hasNameBehindMissing(path)) {
                ImageStores x = new ImageStores();
                x.build(0, path % 2 == 0 ? WRITE : MAKE, path, 1);
                for (int there = x.next(1, 0); there >= 0 && there < 125; there = x.next(1, there)) {
                    int parent = there % 5 != 0 ? there / 5 * 5 : there % 25 != 0 ? there / 25 * 25 : 0;
                    due("parent of " + there + " under " + path, x.look(1, parent), DIRECTORY);
                }
            }
        }
    }

    // LAYERS

    private static void risingPaths() {
        ImageStores x = new ImageStores();
        x.build(0, WRITE, 106, 1);
        x.build(1, MAKE, 25, 0);
        x.build(2, MOVE, 105, 30);
        dueTopLayer("MOVE to a lower path", x, 3, 30, DIRECTORY, 31, 1, 105, GONE);
        x.build(3, MOVE, 30, 105);
        dueTopLayer("MOVE to a higher path", x, 4, 30, GONE, 105, DIRECTORY, 106, 1);
        x.build(4, MOVE, 105, 50);
        dueTopLayer("MOVE between others", x, 5, 50, DIRECTORY, 55, 1, 105, GONE);
    }

    private static void entriesOfDirectories() {
        ImageStores x = new ImageStores();
        x.build(0, MAKE, 36, 0);
        dueTopLayer("none was there", x, 1, 25, DIRECTORY, 35, DIRECTORY, 36, DIRECTORY);
        x.build(1, MAKE, 39, 0);
        dueTopLayer("those above were there", x, 2, 39, DIRECTORY);
        x.build(2, WRITE, 44, 5);
        dueTopLayer("one above was there", x, 3, 40, DIRECTORY, 44, 5);
        due("all were there", x.build(3, MAKE, 36, 0), 3);
    }

    private static void entriesOfFiles() {
        ImageStores x = new ImageStores();
        x.build(0, WRITE, 25, 0);
        dueTopLayer("no file was there", x, 1, 25, 0);
        x.build(1, WRITE, 25, -1);
        dueTopLayer("a file of other content was there", x, 2, 25, -1);
        due("a file of this content was there", x.build(2, WRITE, 25, -1), 2);
        x.build(2, COPY, 25, 50);
        dueTopLayer("only the copy", x, 3, 50, -1);
    }

    private static void entriesOfWhatIsGone() {
        ImageStores x = new ImageStores();
        x.build(0, WRITE, 34, 1);
        x.build(1, WRITE, 31, 1);
        x.build(2, REMOVE, 34, 0);
        dueTopLayer("a file is gone", x, 3, 34, GONE);
        x.build(3, REMOVE, 31, 0);
        dueTopLayer("nothing for what was absent before", x, 4, 31, GONE);
        due("flattened", x.flatten(4), 5);
        dueTopLayer("nothing is gone from the root alone", x, 5, 25, DIRECTORY, 30, DIRECTORY);
    }

    private static void goneBelowWhatStays() {
        ImageStores x = new ImageStores();
        x.build(0, WRITE, 31, 1);
        x.build(1, WRITE, 124, 2);
        x.build(2, REMOVE, 31, 0);
        dueTopLayer("three names, the parent stays", x, 3, 31, GONE);
        x.build(2, REMOVE, 30, 0);
        dueTopLayer("two names, nothing for what was below", x, 4, 30, GONE);
        x.build(2, REMOVE, 25, 0);
        dueTopLayer("one name, the root stays", x, 5, 25, GONE);
        x.build(2, MOVE, 100, 50);
        dueTopLayer("MOVE of one name", x, 6, 50, DIRECTORY, 70, DIRECTORY, 74, 2, 100, GONE);
    }

    private static void sameLayers() {
        ImageStores x = new ImageStores();
        x.build(0, WRITE, 25, 1);
        x.build(0, WRITE, 50, 2);
        x.build(1, REMOVE, 25, 0);
        x.build(2, WRITE, 25, 1);
        due("same entries, other trees", x.shared(4, 1), 1);
        x.build(0, WRITE, 25, 2);
        due("same path, other content", x.shared(5, 1), 0);
        due("same content, other path", x.shared(5, 2), 0);
        x.build(0, MAKE, 25, 0);
        due("file and directory", x.shared(6, 1), 0);
        x.build(6, REMOVE, 25, 0);
        due("GONE, whatever was there", x.shared(7, 3), 1);
        due("GONE and directory at a path", x.common(7, 3), 0);
        x.build(0, MAKE, 30, 0);
        due("a list and a longer one", x.shared(6, 8), 0);
        due("a list and a shorter one", x.shared(8, 6), 0);
        due("kept once", x.count(1), 6);
    }

    // IMAGES

    private static void noLayersOfImage0() {
        ImageStores x = new ImageStores();
        due("layers", x.layers(0), 0);
        due("entries of layer 0", x.entries(0, 0), REFUSED);
        x.build(0, WRITE, 25, 1);
        due("layers with an image built on it", x.layers(0), 0);
    }

    private static void bareTreeOfImage0() {
        ImageStores x = new ImageStores();
        x.build(0, WRITE, 124, 1);
        due("root", x.look(0, 0), DIRECTORY);
        due("next", x.next(0, 0), 125);
        for (int path = 1; path <= 124; path++) {
            due("look at " + path, x.look(0, path), ABSENT);
        }
    }

    private static void neverTheTreeOfTheParent() {
        ImageStores x = new ImageStores();
        x.build(0, MAKE, 25, 0);
        due("its own tree", x.build(1, MAKE, 25, 0), 1);
        due("the bare tree again, of another parent", x.build(1, REMOVE, 25, 0), 2);
        dueTree("the bare tree again", x, 2);
        due("its layers", x.layers(2), 2);
        due("the tree of the parent's parent", x.build(2, MAKE, 25, 0), 3);
        due("its layers", x.layers(3), 3);
        due("images", x.count(0), 4);
    }

    private static void theLongestChain() {
        ImageStores x = filled();
        for (int image = 0; image <= 39; image++) {
            due("layers of image " + image, x.layers(image), image);
            due("layers in common with the last", x.common(image, 39), image);
        }
        for (int layer = 0; layer < 39; layer++) {
            dueLayer("layer " + layer, x, 39, layer, 25 + 25 * (layer % 4), layer);
        }
        due("no layer behind the last", x.entries(39, 39), REFUSED);
    }

    private static void lowestLayerFirst() {
        ImageStores x = new ImageStores();
        x.build(0, WRITE, 100, 7);
        x.build(1, WRITE, 25, 8);
        dueLayer("lowest", x, 2, 0, 100, 7);
        dueLayer("highest", x, 2, 1, 25, 8);
        due("before the lowest", x.entries(2, -1), REFUSED);
        due("behind the highest", x.entries(2, 2), REFUSED);
    }

    private static void sameParentAndTree() {
        ImageStores x = new ImageStores();
        due("first", x.build(0, MAKE, 25, 0), 1);
        due("second", x.build(1, MAKE, 50, 0), 2);
        due("the same by another step", x.build(1, COPY, 25, 50), 2);
        due("the same by another argument", x.build(1, MAKE, 50, 9), 2);
        due("same tree, parent 0", x.flatten(2), 3);
        due("same parent 0 and tree", x.flatten(3), 3);
        due("same tree, other parent", x.build(0, MAKE, 50, 0), 4);
        due("same tree, other parent", x.build(4, MAKE, 25, 0), 5);
        due("same parent, other tree", x.build(0, WRITE, 25, 0), 6);
        due("images", x.count(0), 7);
    }

    private static void nextNumber() {
        ImageStores x = new ImageStores();
        due("the first", x.build(0, WRITE, 25, 1), 1);
        due("refused", x.build(1, WRITE, 30, 1), REFUSED);
        due("made already", x.build(0, WRITE, 25, 1), 1);
        due("the next, refused calls between", x.build(0, WRITE, 25, 2), 2);
        x.collect(0);
        due("the next, none held but image 0", x.build(0, WRITE, 25, 3), 3);
        due("the next by flatten", x.flatten(x.build(3, WRITE, 50, 3)), 5);
    }

    private static void fortyImages() {
        ImageStores x = filled();
        due("images", x.count(0), 40);
        due("the last is made", x.layers(39), 39);
        due("a 41st", x.build(39, WRITE, 25, 99), FULL);
        due("image 40", x.layers(40), REFUSED);
        due("images", x.count(0), 40);
        ImageStores y = new ImageStores();
        for (int i = 1; i <= 39; i++) {
            due("beside one another", y.build(0, WRITE, 25, i), i);
        }
        due("a 41st beside", y.build(0, WRITE, 25, 40), FULL);
        ImageStores z = new ImageStores();
        for (int i = 0; i < 19; i++) {
            z.build(0, WRITE, 25, i);
        }
        for (int i = 1; i <= 19; i++) {
            z.build(i, WRITE, 50, 0);
        }
        due("the 40th by flatten", z.flatten(20), 39);
        due("a 41st by flatten", z.flatten(21), FULL);
    }

    private static void imagesForEver() {
        ImageStores x = new ImageStores();
        x.build(0, WRITE, 31, 1);
        x.build(1, REMOVE, 31, 0);
        x.collect(0);
        x.collect(1);
        due("not held", x.held(0, 2), false);
        due("made", x.count(0), 3);
        dueTree("looked at", x, 1, 25, DIRECTORY, 30, DIRECTORY, 31, 1);
        dueTree("looked at", x, 2, 25, DIRECTORY, 30, DIRECTORY);
        dueLayer("looked at", x, 2, 0, 25, DIRECTORY, 30, DIRECTORY, 31, 1);
        dueLayer("looked at", x, 2, 1, 31, GONE);
        due("same layers", x.common(1, 2), 1);
        due("same layers", x.shared(1, 2), 1);
        due("number kept", x.build(0, WRITE, 31, 1), 1);
        due("number kept", x.build(1, REMOVE, 31, 0), 2);
    }

    // STORES

    private static void twoStores() {
        ImageStores x = new ImageStores();
        due("tag of store 0", x.tag(0, 0, 0), 40);
        due("tag of store 1", x.tag(1, 0, 0), 40);
        for (int store : WRONG_STORES) {
            due("held by store " + store, x.held(store, 0), false);
            due("named by store " + store, x.named(store, 0), REFUSED);
            due("tag of store " + store, x.tag(store, 0, 0), REFUSED);
            due("untag of store " + store, x.untag(store, 0), REFUSED);
            due("send of store " + store, x.send(store, 0), REFUSED);
            due("collect of store " + store, x.collect(store), REFUSED);
        }
        x.build(0, WRITE, 25, 1);
        due("what is built is held by the builder's", x.held(0, 1), true);
        due("and not by the other", x.held(1, 1), false);
    }

    private static void image0IsAlwaysHeld() {
        ImageStores x = new ImageStores();
        x.build(0, WRITE, 25, 1);
        x.tag(0, 0, 1);
        x.send(0, 0);
        for (int store = 0; store <= 1; store++) {
            x.collect(store);
            due("with another image named", x.held(store, 0), true);
            x.tag(store, 1, 0);
            x.untag(store, 1);
            x.untag(store, 0);
            x.collect(store);
            due("with none named", x.held(store, 0), true);
            due("the other", x.held(store, 1), false);
        }
        due("it can be built on", x.build(0, WRITE, 25, 1), 1);
    }

    private static void theSameLayerOnce() {
        ImageStores x = new ImageStores();
        due("none", x.count(1), 0);
        x.build(0, WRITE, 31, 1);
        x.build(1, REMOVE, 25, 0);
        x.build(2, WRITE, 31, 1);
        due("twice in one image", x.count(1), 2);
        due("entries", x.count(3), 4);
        x.build(0, WRITE, 50, 1);
        x.build(4, WRITE, 31, 1);
        due("in two images", x.count(1), 3);
        due("entries", x.count(3), 5);
        x.tag(0, 0, 5);
        x.collect(0);
        due("the layers of the image held, its parent not held", x.count(1), 2);
        due("entries", x.count(3), 4);
    }

    private static void sixTags() {
        ImageStores x = new ImageStores();
        for (int store = 0; store <= 1; store++) {
            for (int tag = 0; tag <= 5; tag++) {
                due("tag " + tag + " of store " + store, x.tag(store, tag, 0), 40);
                due("named by it", x.named(store, tag), 0);
            }
            for (int tag : WRONG_TAGS) {
                due("tag " + tag, x.tag(store, tag, 0), REFUSED);
                due("named by " + tag, x.named(store, tag), REFUSED);
                due("untag " + tag, x.untag(store, tag), REFUSED);
                due("send " + tag, x.send(store, tag), REFUSED);
            }
        }
    }

    private static void tagsNameWhatIsHeld() {
        ImageStores x = new ImageStores();
        x.build(0, WRITE, 25, 1);
        due("not held by store 1", x.tag(1, 0, 1), REFUSED);
        x.tag(0, 5, 1);
        x.collect(0);
        due("still named", x.named(0, 5), 1);
        due("still held", x.held(0, 1), true);
        x.untag(0, 5);
        x.collect(0);
        due("no more held", x.tag(0, 5, 1), REFUSED);
    }

    private static void noneAtFirst() {
        ImageStores x = new ImageStores();
        for (int store = 0; store <= 1; store++) {
            for (int tag = 0; tag <= 5; tag++) {
                due("named", x.named(store, tag), 40);
                due("untag", x.untag(store, tag), REFUSED);
                due("send", x.send(store, tag), REFUSED);
            }
        }
    }
}
