/** For each promise of the document ordinary inputs, the edges that it names, and wrong inputs. */
public final class PromisesTest extends Checks {
    public static void main(String[] args) {
        constants();
        newObject();
        legalPaths();
        write();
        make();
        remove();
        copy();
        lastPathBelow();
        copyKeepsNames();
        copyRefusals();
        move();
        buildAnswers();
        buildRefusals();
        buildFull();
        buildAfterCollect();
        flatten();
        flattenFull();
        tag();
        untag();
        send();
        sendBack();
        collect();
        collectKeepsImagesMade();
        named();
        held();
        look();
        next();
        layers();
        entries();
        entryPathAndMark();
        common();
        shared();
        count();
        countAgain();
        finish("promises");
    }

    private static void constants() {
        due("REFUSED", ImageStores.REFUSED, REFUSED);
        due("FULL", ImageStores.FULL, FULL);
        due("ABSENT", ImageStores.ABSENT, ABSENT);
        due("DIRECTORY", ImageStores.DIRECTORY, DIRECTORY);
        due("GONE", ImageStores.GONE, GONE);
        due("NONE", ImageStores.NONE, NONE);
    }

    // Promise 1

    private static void newObject() {
        ImageStores x = new ImageStores();
        due("1: images", x.count(0), 1);
        for (int what = 1; what <= 5; what++) {
            due("1: count(" + what + ")", x.count(what), 0);
        }
        for (int store = 0; store <= 1; store++) {
            due("1: held image 0", x.held(store, 0), true);
            due("1: held image 1", x.held(store, 1), false);
            for (int tag = 0; tag <= 5; tag++) {
                due("1: named", x.named(store, tag), 40);
            }
        }
        due("1: layers", x.layers(0), 0);
        dueTree("1: tree", x, 0);
        x.build(0, WRITE, 25, 1);
        due("1: a second object is its own", new ImageStores().count(0), 1);
    }

    // Terms, and promise 2

    private static void legalPaths() {
        int legal = 0;
        for (int path = 0; path <= 124; path++) {
            boolean isLegal = path / 25 != 0 && (path / 5 % 5 != 0 || path % 5 == 0);
            int answer = new ImageStores().build(0, WRITE, path, 3);
            due("2: WRITE at " + path, answer, isLegal ? 1 : REFUSED);
            due("2: MAKE at " + path, new ImageStores().build(0, MAKE, path, 3), isLegal ? 1 : REFUSED);
            ImageStores x = new ImageStores();
            x.build(0, WRITE, 25, 3);
            for (int above = 50; above <= 100; above += 25) {
                x.build(x.count(0) - 1, MAKE, above, 0);
            }
            boolean parentThere = path % 25 == 0 || path >= 50 && path % 5 == 0;
            boolean absent = path > 100 || path > 50 && path % 25 != 0;
            due("2: COPY to " + path, x.build(4, COPY, 25, path), isLegal && parentThere && absent ? 5 : REFUSED);
            legal += isLegal ? 1 : 0;
        }
        due("legal paths", legal, 84);
        ImageStores x = new ImageStores();
        x.build(0, MAKE, 25, 0);
        for (int path : WRONG_PATHS) {
            for (int step = 0; step <= 4; step++) {
                due("2: step " + step + " at " + path, x.build(1, step, path, 50), REFUSED);
            }
            due("2: COPY to " + path, x.build(1, COPY, 25, path), REFUSED);
            due("2: MOVE to " + path, x.build(1, MOVE, 25, path), REFUSED);
        }
        for (int step = 0; step <= 4; step++) {
            due("2: step " + step + " at the root", x.build(1, step, 0, 50), REFUSED);
        }
        due("2: COPY to the root", x.build(1, COPY, 25, 0), REFUSED);
        due("2: REMOVE at a path not legal", x.build(1, REMOVE, 26, 0), REFUSED);
        due("2: nothing was made", x.count(0), 2);
        due("2: nothing was counted", x.count(5), 0);
    }

    private static void write() {
        ImageStores x = new ImageStores();
        due("2: WRITE deep", x.build(0, WRITE, 124, -5), 1);
        dueTree("2: WRITE deep", x, 1, 100, DIRECTORY, 120, DIRECTORY, 124, -5);
        due("2: WRITE beside", x.build(1, WRITE, 123, LOW), 2);
        due("2: WRITE beside", x.build(2, WRITE, 115, HIGH), 3);
        dueTree("2: WRITE beside", x, 3, 100, DIRECTORY, 115, HIGH, 120, DIRECTORY, 123, LOW, 124, -5);
        dueTree("2: WRITE leaves the parent", x, 1, 100, DIRECTORY, 120, DIRECTORY, 124, -5);
        due("2: WRITE on a directory", x.build(3, WRITE, 100, 1), REFUSED);
        due("2: WRITE on a directory", x.build(3, WRITE, 120, 1), REFUSED);
        due("2: WRITE below a file", x.build(3, WRITE, 116, 1), REFUSED);
        due("2: WRITE other content", x.build(3, WRITE, 115, 0), 4);
        dueLayer("2: WRITE other content", x, 4, 3, 115, 0);
        due("2: WRITE same content", x.build(4, WRITE, 115, 0), 4);
        x = new ImageStores();
        x.build(0, WRITE, 25, 1);
        due("2: WRITE two below a file", x.build(1, WRITE, 31, 1), REFUSED);
        due("2: WRITE one below a file", x.build(1, WRITE, 30, 1), REFUSED);
        due("2: WRITE beside a file", x.build(1, WRITE, 56, 1), 2);
        dueTree("2: refused WRITE", x, 1, 25, 1);
    }

    private static void make() {
        ImageStores x = new ImageStores();
        due("2: MAKE", x.build(0, MAKE, 62, 9), 1);
        dueTree("2: MAKE", x, 1, 50, DIRECTORY, 60, DIRECTORY, 62, DIRECTORY);
        due("2: MAKE what is there", x.build(1, MAKE, 62, -1), 1);
        due("2: MAKE what is there", x.build(1, MAKE, 60, 0), 1);
        due("2: MAKE what is there", x.build(1, MAKE, 50, 124), 1);
        due("2: MAKE what is there is counted", x.count(5), 3);
        x.build(1, WRITE, 75, 0);
        due("2: MAKE on a file", x.build(2, MAKE, 75, 0), REFUSED);
        due("2: MAKE below a file", x.build(2, MAKE, 80, 0), REFUSED);
        due("2: MAKE two below a file", x.build(2, MAKE, 81, 0), REFUSED);
        due("2: MAKE, whatever the argument", x.build(2, MAKE, 63, LOW), 3);
        due("2: MAKE, whatever the argument", x.build(2, MAKE, 63, HIGH), 3);
        dueTree("2: MAKE keeps what is below", x, 3,
                50, DIRECTORY, 60, DIRECTORY, 62, DIRECTORY, 63, DIRECTORY, 75, 0);
    }

    private static void remove() {
        ImageStores x = new ImageStores();
        x.build(0, WRITE, 31, 1);
        x.build(1, WRITE, 36, 2);
        x.build(2, MAKE, 50, 0);
        x.build(3, WRITE, 45, 4);
        due("2: REMOVE absent", x.build(4, REMOVE, 32, 0), REFUSED);
        due("2: REMOVE absent", x.build(4, REMOVE, 75, 0), REFUSED);
        due("2: REMOVE a directory", x.build(4, REMOVE, 30, LOW), 5);
        dueTree("2: REMOVE a directory", x, 5, 25, DIRECTORY, 35, DIRECTORY, 36, 2, 45, 4, 50, DIRECTORY);
        due("2: REMOVE, whatever the argument", x.build(4, REMOVE, 30, HIGH), 5);
        due("2: REMOVE a file", x.build(5, REMOVE, 36, 0), 6);
        dueTree("2: REMOVE keeps what is above", x, 6, 25, DIRECTORY, 35, DIRECTORY, 45, 4, 50, DIRECTORY);
        due("2: REMOVE a first name", x.build(4, REMOVE, 25, 0), 7);
        dueTree("2: REMOVE a first name", x, 7, 50, DIRECTORY);
        dueLayer("2: REMOVE a first name", x, 7, 4, 25, GONE);
        due("2: REMOVE all", x.build(7, REMOVE, 50, 0), 8);
        dueTree("2: REMOVE all", x, 8);
        due("2: layers of a bare tree", x.layers(8), 6);
    }

    private static void copy() {
        ImageStores x = new ImageStores();
        x.build(0, WRITE, 31, 5);
        x.build(1, MAKE, 40, 0);
        due("2: COPY", x.build(2, COPY, 25, 100), 3);
        dueTree("2: COPY", x, 3, 25, DIRECTORY, 30, DIRECTORY, 31, 5, 40, DIRECTORY,
                100, DIRECTORY, 105, DIRECTORY, 106, 5, 115, DIRECTORY);
        dueLayer("2: COPY", x, 3, 2, 100, DIRECTORY, 105, DIRECTORY, 106, 5, 115, DIRECTORY);
        due("2: COPY beside", x.build(3, COPY, 30, 45), 4);
        dueLayer("2: COPY beside", x, 4, 3, 45, DIRECTORY, 46, 5);
        due("2: COPY into", x.build(4, COPY, 46, 44), 5);
        dueLayer("2: COPY into", x, 5, 4, 44, 5);
        due("2: COPY to a sister below the parent", x.build(5, COPY, 31, 32), 6);
        dueLayer("2: COPY to a sister below the parent", x, 6, 5, 32, 5);
    }

    private static void lastPathBelow() {
        ImageStores x = new ImageStores();
        x.build(0, WRITE, 49, 1);
        x.build(1, WRITE, 99, 2);
        due("2: COPY with the last path below", x.build(2, COPY, 25, 50), 3);
        dueLayer("2: COPY with the last path below", x, 3, 2, 50, DIRECTORY, 70, DIRECTORY, 74, 1);
        due("2: COPY with the last path below", x.build(3, COPY, 95, 60), 4);
        dueLayer("2: COPY with the last path below", x, 4, 3, 60, DIRECTORY, 64, 2);
        due("2: COPY to four names by the last path", x.build(4, COPY, 25, 80), REFUSED);
        due("2: REMOVE with the last path below", x.build(4, REMOVE, 25, 0), 5);
        dueTree("2: REMOVE with the last path below", x, 5, 50, DIRECTORY, 60, DIRECTORY, 64, 2,
                70, DIRECTORY, 74, 1, 75, DIRECTORY, 95, DIRECTORY, 99, 2);
        due("2: REMOVE with the last path below", x.build(5, REMOVE, 70, 0), 6);
        dueTree("2: REMOVE with the last path below", x, 6, 50, DIRECTORY, 60, DIRECTORY, 64, 2,
                75, DIRECTORY, 95, DIRECTORY, 99, 2);
    }

    private static void copyKeepsNames() {
        ImageStores x = new ImageStores();
        x.build(0, WRITE, 33, 7);
        x.build(1, WRITE, 34, 8);
        due("2: COPY upwards", x.build(2, COPY, 30, 75), 3);
        dueLayer("2: COPY upwards", x, 3, 2, 75, DIRECTORY, 90, 7, 95, 8);
        due("2: COPY a file two up", x.build(3, COPY, 34, 50), 4);
        dueLayer("2: COPY a file two up", x, 4, 3, 50, 8);
        due("2: COPY downwards", x.build(4, COPY, 75, 35), 5);
        dueLayer("2: COPY downwards", x, 5, 4, 35, DIRECTORY, 38, 7, 39, 8);
        due("2: COPY a file two down", x.build(5, COPY, 50, 36), 6);
        dueLayer("2: COPY a file two down", x, 6, 5, 36, 8);
        x.build(6, MAKE, 100, 0);
        due("2: COPY an empty directory two down", x.build(7, COPY, 100, 37), 8);
        dueLayer("2: COPY an empty directory two down", x, 8, 7, 37, DIRECTORY);
    }

    private static void copyRefusals() {
        ImageStores x = new ImageStores();
        x.build(0, WRITE, 31, 5);
        x.build(1, WRITE, 50, 6);
        x.build(2, MAKE, 75, 0);
        x.build(3, MAKE, 80, 0);
        for (int step = COPY; step <= MOVE; step++) {
            due("2: COPY of what is absent", x.build(4, step, 100, 105), REFUSED);
            due("2: COPY of what is absent", x.build(4, step, 100, 85), REFUSED);
            due("2: COPY of what is absent", x.build(4, step, 32, 85), REFUSED);
            due("2: COPY onto a file", x.build(4, step, 31, 50), REFUSED);
            due("2: COPY onto a directory", x.build(4, step, 31, 80), REFUSED);
            due("2: COPY below a file", x.build(4, step, 31, 55), REFUSED);
            due("2: COPY two below a file", x.build(4, step, 31, 56), REFUSED);
            due("2: COPY below what is absent", x.build(4, step, 31, 105), REFUSED);
            due("2: COPY below what is absent", x.build(4, step, 31, 86), REFUSED);
            due("2: COPY onto itself", x.build(4, step, 25, 25), REFUSED);
            due("2: COPY of a file onto itself", x.build(4, step, 31, 31), REFUSED);
            due("2: COPY below itself", x.build(4, step, 75, 85), REFUSED);
            due("2: COPY two below itself", x.build(4, step, 75, 81), REFUSED);
            due("2: COPY to four names", x.build(4, step, 25, 85), REFUSED);
            due("2: COPY to five names", x.build(4, step, 25, 81), REFUSED);
            due("2: COPY of two names to four names", x.build(4, step, 30, 81), REFUSED);
        }
        due("2: refused COPY makes nothing", x.count(0), 5);
        dueTree("2: refused COPY changes nothing", x, 4,
                25, DIRECTORY, 30, DIRECTORY, 31, 5, 50, 6, 75, DIRECTORY, 80, DIRECTORY);
        due("2: COPY to just three names", x.build(4, COPY, 30, 85), 5);
    }

    private static void move() {
        ImageStores x = new ImageStores();
        x.build(0, WRITE, 31, 5);
        x.build(1, WRITE, 36, 6);
        due("2: MOVE", x.build(2, MOVE, 30, 40), 3);
        dueTree("2: MOVE", x, 3, 25, DIRECTORY, 35, DIRECTORY, 36, 6, 40, DIRECTORY, 41, 5);
        dueLayer("2: MOVE", x, 3, 2, 30, GONE, 40, DIRECTORY, 41, 5);
        due("2: MOVE up", x.build(3, MOVE, 40, 50), 4);
        dueTree("2: MOVE up", x, 4, 25, DIRECTORY, 35, DIRECTORY, 36, 6, 50, DIRECTORY, 55, 5);
        due("2: MOVE down", x.build(4, MOVE, 50, 30), 5);
        dueTree("2: MOVE down", x, 5, 25, DIRECTORY, 30, DIRECTORY, 31, 5, 35, DIRECTORY, 36, 6);
        due("2: MOVE all", x.build(5, MOVE, 25, 100), 6);
        dueTree("2: MOVE all", x, 6, 100, DIRECTORY, 105, DIRECTORY, 106, 5, 110, DIRECTORY, 111, 6);
        dueLayer("2: MOVE all", x, 6, 5,
                25, GONE, 100, DIRECTORY, 105, DIRECTORY, 106, 5, 110, DIRECTORY, 111, 6);
    }

    private static void buildAnswers() {
        ImageStores x = new ImageStores();
        due("2: first", x.build(0, WRITE, 25, 1), 1);
        due("2: held by store 0", x.held(0, 1), true);
        due("2: not by store 1", x.held(1, 1), false);
        due("2: the same again", x.build(0, WRITE, 25, 1), 1);
        due("2: other parent", x.build(1, WRITE, 50, 2), 2);
        due("2: same layer on another parent", x.build(0, WRITE, 50, 2), 3);
        due("2: same tree on another parent", x.build(3, WRITE, 25, 1), 4);
        due("2: the tree of an image below, another parent", x.build(2, REMOVE, 50, 0), 5);
        dueTree("2: the tree of an image below, another parent", x, 5, 25, 1);
        due("2: other step, same tree", x.build(2, WRITE, 75, 2), 6);
        due("2: other step, same tree", x.build(2, COPY, 50, 75), 6);
        due("2: counted", x.count(5), 2);
        due("2: images", x.count(0), 7);
    }

    private static void buildRefusals() {
        ImageStores x = new ImageStores();
        x.build(0, MAKE, 25, 0);
        int[] wrongImages = {LOW, -1, 2, 39, 40, 41, HIGH};
        for (int image : wrongImages) {
            due("2: on image " + image, x.build(image, WRITE, 25, 0), REFUSED);
        }
        int[] wrongSteps = {LOW, -1, 5, 6, HIGH};
        for (int step : wrongSteps) {
            due("2: step " + step, x.build(1, step, 50, 75), REFUSED);
            due("2: step " + step, x.build(1, step, 25, 75), REFUSED);
        }
        due("2: nothing made", x.count(0), 2);
        due("2: nothing counted", x.count(5), 0);
        due("2: nothing held", x.held(0, 2), false);
    }

    private static void buildFull() {
        ImageStores x = filled();
        due("2: a 41st image", x.build(39, MAKE, 30, 0), REFUSED);
        due("2: a 41st image", x.build(39, REMOVE, 25, 0), FULL);
        due("2: a 41st image", x.build(0, MAKE, 25, 0), FULL);
        due("2: wrong numbers before FULL", x.build(39, REMOVE, 26, 0), REFUSED);
        due("2: wrong numbers before FULL", x.build(40, REMOVE, 25, 0), REFUSED);
        due("2: its own tree is not FULL", x.build(39, WRITE, 75, 38), 39);
        due("2: an image made is not FULL", x.build(38, WRITE, 75, 38), 39);
        due("2: FULL is not counted", x.count(5), 2);
        due("2: images", x.count(0), 40);
        due("2: FULL makes no layer", x.count(1), 39);
        due("2: image 40", x.held(0, 40), false);
        x.collect(0);
        due("2: FULL even if nothing is held", x.build(0, MAKE, 25, 0), FULL);
        due("2: an image made is held anew", x.build(0, WRITE, 25, 0), 1);
        due("2: an image made is held anew", x.held(0, 1), true);
    }

    private static void buildAfterCollect() {
        ImageStores x = new ImageStores();
        x.build(0, WRITE, 25, 1);
        x.build(1, WRITE, 50, 1);
        x.collect(0);
        due("2: on an image no more held", x.build(1, WRITE, 50, 1), REFUSED);
        due("2: an image no more held", x.build(0, WRITE, 25, 1), 1);
        due("2: is held anew", x.held(0, 1), true);
        due("2: only that one", x.held(0, 2), false);
        due("2: is not counted", x.count(5), 0);
        x.tag(0, 0, 1);
        x.send(0, 0);
        x.untag(0, 0);
        x.collect(0);
        due("2: held by store 1 alone", x.build(1, WRITE, 50, 1), REFUSED);
        due("3: held by store 1 alone", x.flatten(1), REFUSED);
        due("2: numbers go on", x.build(0, WRITE, 75, 1), 3);
    }

    // Promise 3

    private static void flatten() {
        ImageStores x = new ImageStores();
        due("3: image 0", x.flatten(0), 0);
        due("3: image 0 is counted", x.count(5), 1);
        x.build(0, WRITE, 31, 1);
        due("3: with parent 0", x.flatten(1), 1);
        due("3: with parent 0 is counted", x.count(5), 2);
        x.build(1, WRITE, 50, 2);
        x.build(2, REMOVE, 31, 0);
        due("3: new", x.flatten(3), 4);
        due("3: new is not counted", x.count(5), 2);
        due("3: new is held", x.held(0, 4), true);
        due("3: new isn't held by store 1", x.held(1, 4), false);
        dueTree("3: new", x, 4, 25, DIRECTORY, 30, DIRECTORY, 50, 2);
        due("3: layers", x.layers(4), 1);
        dueLayer("3: layer", x, 4, 0, 25, DIRECTORY, 30, DIRECTORY, 50, 2);
        due("3: again", x.flatten(3), 4);
        due("3: of the flat one", x.flatten(4), 4);
        due("3: again is counted", x.count(5), 4);
        x.build(1, REMOVE, 25, 0);
        due("3: bare tree", x.flatten(5), 0);
        due("3: bare tree is counted", x.count(5), 5);
        int[] wrongImages = {LOW, -1, 6, 39, 40, HIGH};
        for (int image : wrongImages) {
            due("3: image " + image, x.flatten(image), REFUSED);
        }
        x.tag(0, 0, 3);
        x.collect(0);
        due("3: not held", x.flatten(2), REFUSED);
        due("3: answer not held", x.flatten(3), 4);
        due("3: held anew", x.held(0, 4), true);
        due("3: held anew is not counted", x.count(5), 5);
        due("3: images", x.count(0), 6);
    }

    private static void flattenFull() {
        ImageStores x = filled();
        due("3: a 41st image", x.flatten(39), FULL);
        due("3: FULL", x.count(0), 40);
        due("3: FULL is not counted", x.count(5), 0);
        due("3: image 1 is flat", x.flatten(1), 1);
        due("3: image 0", x.flatten(0), 0);
        due("3: wrong image", x.flatten(40), REFUSED);
    }

    // Promises 4 and 5

    private static void tag() {
        ImageStores x = new ImageStores();
        x.build(0, WRITE, 25, 1);
        x.build(1, WRITE, 25, 2);
        due("4: first", x.tag(0, 0, 1), 40);
        due("4: second", x.tag(0, 0, 2), 1);
        due("4: image 0", x.tag(0, 0, 0), 2);
        due("4: image 0 named before", x.tag(0, 0, 0), 0);
        due("4: last tag", x.tag(0, 5, 2), 40);
        due("4: same image by two tags", x.tag(0, 4, 2), 40);
        due("4: store 1", x.tag(1, 5, 0), 40);
        due("4: store 1", x.tag(1, 0, 1), REFUSED);
        due("4: store 0 keeps its own", x.named(0, 5), 2);
        for (int store : WRONG_STORES) {
            due("4: store " + store, x.tag(store, 0, 0), REFUSED);
        }
        for (int tag : WRONG_TAGS) {
            due("4: tag " + tag, x.tag(0, tag, 0), REFUSED);
        }
        int[] wrongImages = {LOW, -1, 3, 39, 40, HIGH};
        for (int image : wrongImages) {
            due("4: image " + image, x.tag(0, 3, image), REFUSED);
        }
        due("4: refused", x.named(0, 3), 40);
        x.untag(0, 5);
        x.untag(0, 4);
        x.collect(0);
        due("4: no more held", x.tag(0, 3, 2), REFUSED);
    }

    private static void untag() {
        ImageStores x = new ImageStores();
        x.build(0, WRITE, 25, 1);
        due("5: none", x.untag(0, 0), REFUSED);
        x.tag(0, 0, 1);
        x.tag(0, 1, 0);
        due("5: other store", x.untag(1, 0), REFUSED);
        due("5: named", x.untag(0, 0), 1);
        due("5: image 0", x.untag(0, 1), 0);
        due("5: twice", x.untag(0, 0), REFUSED);
        due("5: names none", x.named(0, 0), 40);
        due("5: still held", x.held(0, 1), true);
        int[] wrongNumbers = {LOW, -1, 6, HIGH};
        for (int number : wrongNumbers) {
            due("5: store " + number, x.untag(number, 0), REFUSED);
            due("5: tag " + number, x.untag(0, number), REFUSED);
        }
        due("5: store 2", x.untag(2, 0), REFUSED);
    }

    // Promise 6

    private static void send() {
        ImageStores x = new ImageStores();
        x.build(0, WRITE, 25, 1);
        x.build(1, REMOVE, 25, 0);
        x.build(2, WRITE, 25, 1);
        x.build(3, WRITE, 50, 2);
        x.build(0, WRITE, 50, 2);
        x.tag(0, 2, 4);
        x.tag(0, 3, 5);
        x.tag(0, 4, 0);
        x.tag(0, 0, 3);
        due("6: none", x.send(0, 1), REFUSED);
        due("6: image 0", x.send(0, 4), 0);
        due("6: image 0 named", x.named(1, 4), 0);
        due("6: the same layer once", x.send(0, 2), 3);
        due("6: layers of store 1", x.count(2), 3);
        due("6: held", x.held(1, 4), true);
        due("6: images below are not held", x.held(1, 3), false);
        due("6: named", x.named(1, 2), 4);
        due("6: still named here", x.named(0, 2), 4);
        due("6: layers there already", x.send(0, 3), 0);
        due("6: held", x.held(1, 5), true);
        due("6: layers there already", x.send(0, 0), 0);
        due("6: held", x.held(1, 3), true);
        x.tag(0, 2, 5);
        due("6: over another name", x.send(0, 2), 0);
        due("6: over another name", x.named(1, 2), 5);
        due("6: what was named stays held", x.held(1, 4), true);
        int[] wrongNumbers = {LOW, -1, 6, HIGH};
        for (int number : wrongNumbers) {
            due("6: store " + number, x.send(number, 2), REFUSED);
            due("6: tag " + number, x.send(0, number), REFUSED);
        }
        due("6: store 2", x.send(2, 2), REFUSED);
    }

    private static void sendBack() {
        ImageStores x = new ImageStores();
        x.build(0, WRITE, 25, 1);
        x.build(1, WRITE, 50, 2);
        x.build(0, WRITE, 75, 3);
        x.tag(0, 5, 2);
        due("6: there", x.send(0, 5), 2);
        x.tag(0, 5, 3);
        x.collect(0);
        due("6: gone here", x.held(0, 2), false);
        due("6: back", x.send(1, 5), 2);
        due("6: back", x.held(0, 2), true);
        due("6: back", x.named(0, 5), 2);
        due("6: store 1 still holds it", x.held(1, 2), true);
        due("6: can be built on", x.build(2, WRITE, 100, 1), 4);
        due("6: a part is there", x.tag(0, 0, 4), 40);
        due("6: a part is there", x.send(0, 0), 1);
    }

    // Promise 7

    private static void collect() {
        ImageStores x = new ImageStores();
        due("7: nothing", x.collect(0), 0);
        due("7: nothing", x.collect(1), 0);
        x.build(0, WRITE, 25, 1);
        x.build(1, REMOVE, 25, 0);
        x.build(2, WRITE, 25, 1);
        x.build(3, WRITE, 50, 2);
        x.build(0, WRITE, 50, 2);
        x.build(0, WRITE, 75, 3);
        due("7: layers", x.count(1), 4);
        x.tag(0, 0, 5);
        x.tag(0, 5, 1);
        due("7: one tagged", x.collect(0), 2);
        due("7: image 0 is held", x.held(0, 0), true);
        due("7: tagged is held", x.held(0, 1), true);
        due("7: tagged is held", x.held(0, 5), true);
        due("7: untagged isn't", x.held(0, 2), false);
        due("7: untagged isn't", x.held(0, 3), false);
        due("7: untagged isn't", x.held(0, 4), false);
        due("7: untagged isn't", x.held(0, 6), false);
        due("7: tags stay", x.named(0, 0), 5);
        due("7: layers", x.count(1), 2);
        x.untag(0, 0);
        x.send(0, 5);
        due("7: store 0", x.collect(0), 1);
        x.untag(0, 5);
        due("7: store 0", x.collect(0), 1);
        due("7: store 1 holds on", x.held(1, 1), true);
        due("7: store 1 named", x.collect(1), 0);
        x.untag(1, 5);
        due("7: store 1", x.collect(1), 1);
        due("7: store 1", x.held(1, 1), false);
        due("7: image 0 in store 1", x.held(1, 0), true);
        for (int store : WRONG_STORES) {
            due("7: store " + store, x.collect(store), REFUSED);
        }
    }

    private static void collectKeepsImagesMade() {
        ImageStores x = new ImageStores();
        x.build(0, WRITE, 31, 1);
        x.build(1, WRITE, 50, 2);
        due("7: all", x.collect(0), 2);
        due("7: images made", x.count(0), 3);
        dueTree("7: can be looked at", x, 2, 25, DIRECTORY, 30, DIRECTORY, 31, 1, 50, 2);
        dueLayer("7: can be looked at", x, 2, 1, 50, 2);
        due("7: common", x.common(1, 2), 1);
        due("7: shared", x.shared(2, 1), 1);
        due("7: layer once more", x.build(0, WRITE, 50, 2), 3);
        due("7: same as the layer no more held", x.shared(3, 2), 1);
    }

    // Promises 8 and 9

    private static void named() {
        ImageStores x = new ImageStores();
        x.build(0, WRITE, 25, 1);
        x.tag(0, 3, 1);
        x.tag(1, 4, 0);
        due("8: named", x.named(0, 3), 1);
        due("8: none", x.named(0, 4), 40);
        due("8: none", x.named(1, 3), 40);
        due("8: image 0", x.named(1, 4), 0);
        due("8: last tag", x.named(0, 5), 40);
        int[] wrongNumbers = {LOW, -1, 6, HIGH};
        for (int number : wrongNumbers) {
            due("8: store " + number, x.named(number, 0), REFUSED);
            due("8: tag " + number, x.named(1, number), REFUSED);
        }
        due("8: store 2", x.named(2, 0), REFUSED);
    }

    private static void held() {
        ImageStores x = new ImageStores();
        x.build(0, WRITE, 25, 1);
        due("9: held", x.held(0, 1), true);
        due("9: not held", x.held(1, 1), false);
        int[] wrongImages = {LOW, -1, 2, 39, 40, 41, HIGH};
        for (int image : wrongImages) {
            due("9: image " + image, x.held(0, image), false);
            due("9: image " + image, x.held(1, image), false);
        }
        for (int store : WRONG_STORES) {
            due("9: store " + store, x.held(store, 0), false);
        }
        due("9: the last image", filled().held(0, 39), true);
    }

    // Promises 10 and 11

    private static void look() {
        ImageStores x = new ImageStores();
        x.build(0, WRITE, 124, -1);
        x.build(1, WRITE, 25, HIGH);
        due("10: root", x.look(2, 0), DIRECTORY);
        due("10: root of image 0", x.look(0, 0), DIRECTORY);
        due("10: directory", x.look(2, 120), DIRECTORY);
        due("10: file", x.look(2, 124), -1);
        due("10: file", x.look(2, 25), HIGH);
        due("10: absent", x.look(1, 25), ABSENT);
        due("10: absent", x.look(2, 30), ABSENT);
        int[] notLegal = {1, 4, 5, 6, 24, 26, 29, 51, 101, 104};
        for (int path : notLegal) {
            due("10: path " + path, x.look(2, path), ABSENT);
        }
        for (int path : WRONG_PATHS) {
            due("10: path " + path, x.look(2, path), NONE);
        }
        int[] wrongImages = {LOW, -1, 3, 39, 40, HIGH};
        for (int image : wrongImages) {
            due("10: image " + image, x.look(image, 0), NONE);
        }
    }

    private static void next() {
        ImageStores x = new ImageStores();
        x.build(0, WRITE, 124, 0);
        x.build(1, MAKE, 30, 0);
        due("11: first", x.next(2, 0), 25);
        due("11: from a path not legal", x.next(2, 1), 25);
        due("11: just before", x.next(2, 24), 25);
        due("11: from one that is there", x.next(2, 25), 30);
        due("11: over absent ones", x.next(2, 30), 100);
        due("11: next", x.next(2, 100), 120);
        due("11: last", x.next(2, 123), 124);
        due("11: behind the last", x.next(2, 124), 125);
        due("11: image 0", x.next(0, 0), 125);
        for (int path : WRONG_PATHS) {
            due("11: path " + path, x.next(2, path), REFUSED);
        }
        int[] wrongImages = {LOW, -1, 3, 39, 40, HIGH};
        for (int image : wrongImages) {
            due("11: image " + image, x.next(image, 0), REFUSED);
        }
    }

    // Promises 12 to 15

    private static void layers() {
        ImageStores x = new ImageStores();
        x.build(0, WRITE, 25, 1);
        x.build(1, REMOVE, 25, 1);
        x.build(2, WRITE, 25, 1);
        due("12: image 0", x.layers(0), 0);
        due("12: image 1", x.layers(1), 1);
        due("12: the same layer twice", x.layers(3), 3);
        int[] wrongImages = {LOW, -1, 4, 39, 40, HIGH};
        for (int image : wrongImages) {
            due("12: image " + image, x.layers(image), REFUSED);
        }
        due("12: the longest", filled().layers(39), 39);
    }

    private static void entries() {
        ImageStores x = new ImageStores();
        x.build(0, WRITE, 31, 1);
        x.build(1, WRITE, 32, 1);
        due("13: lowest", x.entries(2, 0), 3);
        due("13: highest", x.entries(2, 1), 1);
        int[] wrongLayers = {LOW, -1, 2, 40, HIGH};
        for (int layer : wrongLayers) {
            due("13: layer " + layer, x.entries(2, layer), REFUSED);
        }
        due("13: image 0", x.entries(0, 0), REFUSED);
        int[] wrongImages = {LOW, -1, 3, 39, 40, HIGH};
        for (int image : wrongImages) {
            due("13: image " + image, x.entries(image, 0), REFUSED);
        }
    }

    private static void entryPathAndMark() {
        ImageStores x = new ImageStores();
        x.build(0, WRITE, 31, -7);
        x.build(1, MOVE, 30, 100);
        dueLayer("14, 15: lowest", x, 2, 0, 25, DIRECTORY, 30, DIRECTORY, 31, -7);
        dueLayer("14, 15: GONE only below what is there", x, 2, 1, 30, GONE, 100, DIRECTORY, 105, -7);
        int[] wrongEntries = {LOW, -1, 3, HIGH};
        for (int entry : wrongEntries) {
            due("14: entry " + entry, x.entryPath(2, 1, entry), REFUSED);
            due("15: entry " + entry, x.entryMark(2, 1, entry), NONE);
        }
        int[] wrongLayers = {LOW, -1, 2, 39, 40, HIGH};
        for (int layer : wrongLayers) {
            due("14: layer " + layer, x.entryPath(2, layer, 0), REFUSED);
            due("15: layer " + layer, x.entryMark(2, layer, 0), NONE);
        }
        int[] wrongImages = {LOW, -1, 0, 3, 39, 40, HIGH};
        for (int image : wrongImages) {
            due("14: image " + image, x.entryPath(image, 0, 0), REFUSED);
            due("15: image " + image, x.entryMark(image, 0, 0), NONE);
        }
    }

    // Promises 16 and 17

    private static ImageStores withSharing() {
        ImageStores x = new ImageStores();
        x.build(0, WRITE, 25, 1);
        x.build(1, REMOVE, 25, 0);
        x.build(2, WRITE, 25, 1);
        x.build(3, WRITE, 50, 2);
        x.build(1, WRITE, 50, 2);
        x.build(5, REMOVE, 50, 0);
        x.build(0, WRITE, 25, 2);
        return x;
    }

    private static void common() {
        ImageStores x = withSharing();
        due("16: with itself", x.common(4, 4), 4);
        due("16: a part", x.common(4, 2), 2);
        due("16: a part", x.common(2, 4), 2);
        due("16: only the lowest", x.common(4, 5), 1);
        due("16: none", x.common(4, 7), 0);
        due("16: image 0", x.common(0, 4), 0);
        due("16: image 0", x.common(0, 0), 0);
        int[] wrongImages = {LOW, -1, 8, 39, 40, HIGH};
        for (int image : wrongImages) {
            due("16: image " + image, x.common(image, 1), REFUSED);
            due("16: image " + image, x.common(1, image), REFUSED);
        }
        x.collect(0);
        due("16: no more held", x.common(4, 2), 2);
    }

    private static void shared() {
        ImageStores x = withSharing();
        due("17: with itself", x.shared(4, 4), 4);
        due("17: places counted apart", x.shared(3, 1), 2);
        due("17: the other way", x.shared(1, 3), 1);
        due("17: other places", x.shared(5, 4), 2);
        due("17: other places", x.shared(4, 5), 3);
        due("17: GONE of another path", x.shared(6, 2), 1);
        due("17: other content", x.shared(7, 4), 0);
        due("17: image 0", x.shared(0, 4), 0);
        due("17: image 0", x.shared(4, 0), 0);
        int[] wrongImages = {LOW, -1, 8, 39, 40, HIGH};
        for (int image : wrongImages) {
            due("17: image " + image, x.shared(image, 1), REFUSED);
            due("17: image " + image, x.shared(1, image), REFUSED);
        }
        ImageStores y = new ImageStores();
        y.build(0, WRITE, 31, 1);
        y.build(1, REMOVE, 25, 0);
        y.build(0, WRITE, 25, 1);
        y.build(3, REMOVE, 25, 0);
        due("17: GONE is the same, whatever was there", y.shared(4, 2), 1);
    }

    // Promise 18

    private static void count() {
        ImageStores x = new ImageStores();
        x.build(0, WRITE, 31, 1);
        x.build(1, REMOVE, 25, 0);
        x.build(2, WRITE, 31, 1);
        x.build(3, WRITE, 56, 1);
        x.build(0, WRITE, 56, 1);
        due("18: images", x.count(0), 6);
        due("18: layers of store 0", x.count(1), 3);
        due("18: layers of store 1", x.count(2), 0);
        due("18: entries of store 0", x.count(3), 7);
        due("18: entries of store 1", x.count(4), 0);
        x.tag(0, 1, 3);
        x.send(0, 1);
        due("18: layers of store 1", x.count(2), 2);
        due("18: entries of store 1", x.count(4), 4);
        x.tag(0, 1, 5);
        x.collect(0);
        due("18: layers of store 0", x.count(1), 1);
        due("18: entries of store 0", x.count(3), 3);
        due("18: layers of store 1", x.count(2), 2);
        due("18: images", x.count(0), 6);
        int[] wrongNumbers = {LOW, -1, 6, HIGH};
        for (int what : wrongNumbers) {
            due("18: count(" + what + ")", x.count(what), REFUSED);
        }
    }

    private static void countAgain() {
        ImageStores x = new ImageStores();
        x.build(0, WRITE, 25, 1);
        due("18: a new image", x.count(5), 0);
        x.build(0, WRITE, 25, 1);
        due("18: an image made", x.count(5), 1);
        x.build(1, WRITE, 25, 1);
        due("18: its own tree", x.count(5), 2);
        x.flatten(1);
        due("18: a flattening", x.count(5), 3);
        x.build(1, WRITE, 30, 1);
        x.build(9, WRITE, 30, 1);
        x.flatten(9);
        due("18: refused", x.count(5), 3);
        x.collect(0);
        x.build(0, WRITE, 25, 1);
        due("18: an image no more held", x.count(5), 3);
        x.build(0, WRITE, 25, 1);
        due("18: an image held anew", x.count(5), 4);
    }
}
