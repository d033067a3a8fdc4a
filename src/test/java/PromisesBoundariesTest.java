/** Each sentence of the document's promises 1 to 18 that names a boundary case. */
public final class PromisesBoundariesTest extends Checks {
    /** Wrong in every state. */
    private static final int[] NO_IMAGES = {LOW, -2, -1, 40, 41, HIGH};

    public static void main(String[] args) {
        newObjects();
        builds();
        flattenings();
        tags();
        sendings();
        collections();
        looksAtStores();
        looksAtTrees();
        looksAtLayers();
        comparisons();
        counts();
        finish("boundaries of the promises");
    }

    private static void newObjects() {
        sentence("1: makes an object in the state that the terms give", PromisesBoundariesTest::nothingButImage0);
    }

    private static void builds() {
        sentence("2: Builds on an image that store 0 holds, else REFUSED", PromisesBoundariesTest::buildOnWhatIsNotHeld);
        sentence("2: step 0 .. 4 (else REFUSED) is made on its tree", PromisesBoundariesTest::stepsOutOfRange);
        sentence("2: REFUSED as told there", PromisesBoundariesTest::stepsRefused);
        sentence("2: If the tree is the image's own, the answer is the image.", PromisesBoundariesTest::buildOfTheOwnTree);
        sentence("2: if it would be a 41st image FULL", PromisesBoundariesTest::build41st);
        sentence("2: it is held by store 0 from now on", PromisesBoundariesTest::buildIsHeld);
        sentence("2: Answers its number.", PromisesBoundariesTest::buildAnswersItsNumber);
    }

    private static void flattenings() {
        sentence("3: The image with parent 0 and the tree of an image", PromisesBoundariesTest::flattenHasOneLayer);
        sentence("3: of an image that store 0 holds, else REFUSED", PromisesBoundariesTest::flattenOfWhatIsNotHeld);
        sentence("3: image 0 if its tree is the root alone", PromisesBoundariesTest::flattenOfABareTree);
        sentence("3: A 41st image: FULL.", PromisesBoundariesTest::flatten41st);
        sentence("3: It is held by store 0 from now on.", PromisesBoundariesTest::flattenIsHeld);
    }

    private static void tags() {
        sentence("4: answers the image that the tag named before", PromisesBoundariesTest::tagAnswersTheOneBefore);
        sentence("4: or 40 if none", PromisesBoundariesTest::tagAnswers40);
        sentence("4: Store not 0 or 1: REFUSED", PromisesBoundariesTest::tagOfNoStore);
        sentence("4: tag not 0 .. 5: REFUSED", PromisesBoundariesTest::tagOfNoTag);
        sentence("4: or the image isn't held: REFUSED", PromisesBoundariesTest::tagOfWhatIsNotHeld);
        sentence("5: The tag of the store names none from now on; answers the image that it named",
                PromisesBoundariesTest::untagNamesNone);
        sentence("5: Store or tag out of range: REFUSED", PromisesBoundariesTest::untagOutOfRange);
        sentence("5: or it named none: REFUSED", PromisesBoundariesTest::untagOfNone);
    }

    private static void sendings() {
        sentence("6: to the other store, which then holds it", PromisesBoundariesTest::sendBothWays);
        sentence("6: and names it by the same tag (whatever that named)", PromisesBoundariesTest::sendOverAName);
        sentence("6: Answers how many different layers of the image the other store did not hold.",
                PromisesBoundariesTest::sendCountsDifferentLayers);
        sentence("6: Store or tag out of range: REFUSED", PromisesBoundariesTest::sendOutOfRange);
        sentence("6: or it names none: REFUSED", PromisesBoundariesTest::sendOfNone);
    }

    private static void collections() {
        sentence("7: The store holds only image 0 and the images that its tags name from now on.",
                PromisesBoundariesTest::collectHoldsOnlyNamed);
        sentence("7: Answers how many different layers it holds no more.", PromisesBoundariesTest::collectCountsLayers);
        sentence("7: Store not 0 or 1: REFUSED.", PromisesBoundariesTest::collectOfNoStore);
    }

    private static void looksAtStores() {
        sentence("8: The image that the tag of the store names, or 40 if none", PromisesBoundariesTest::namedOrNone);
        sentence("8: REFUSED for numbers out of range", PromisesBoundariesTest::namedOutOfRange);
        sentence("9: Whether the store holds the image", PromisesBoundariesTest::heldOrNot);
        sentence("9: false for numbers out of range", PromisesBoundariesTest::heldOutOfRange);
        sentence("9: or not made yet", PromisesBoundariesTest::heldNotMadeYet);
    }

    private static void looksAtTrees() {
        sentence("10: What the path is in the tree of an image made: ABSENT, DIRECTORY, or a file's content",
                PromisesBoundariesTest::lookAtEachKind);
        sentence("10: a path that is not legal is ABSENT", PromisesBoundariesTest::lookAtWhatIsNotLegal);
        sentence("10: but the root a DIRECTORY", PromisesBoundariesTest::lookAtTheRoot);
        sentence("10: No such image: NONE.", PromisesBoundariesTest::lookAtNoImage);
        sentence("10: or path not 0 .. 124: NONE.", PromisesBoundariesTest::lookOutOfRange);
        sentence("11: The least path above the given one that is not absent", PromisesBoundariesTest::nextIsTheLeast);
        sentence("11: or 125 if there is none", PromisesBoundariesTest::nextOfNone);
        sentence("11: No such image: REFUSED.", PromisesBoundariesTest::nextOfNoImage);
        sentence("11: or path not 0 .. 124: REFUSED.", PromisesBoundariesTest::nextOutOfRange);
    }

    private static void looksAtLayers() {
        sentence("12: How many layers the image has", PromisesBoundariesTest::fewestAndMostLayers);
        sentence("12: REFUSED if there is no such image", PromisesBoundariesTest::layersOfNoImage);
        sentence("13: How many entries the layer of the image has", PromisesBoundariesTest::fewestAndMostEntries);
        sentence("13: REFUSED if there is no such image or layer", PromisesBoundariesTest::entriesOfNoLayer);
        sentence("14: The path of the entry (from 0) of the layer of the image", PromisesBoundariesTest::pathsOfEntries);
        sentence("14: REFUSED if there is no such image, layer or entry", PromisesBoundariesTest::pathOfNoEntry);
        sentence("15: What the entry says: DIRECTORY, GONE or the file's content", PromisesBoundariesTest::marksOfEntries);
        sentence("15: NONE if there is no such image, layer or entry", PromisesBoundariesTest::markOfNoEntry);
    }

    private static void comparisons() {
        sentence("16: How many lowest layers of the two images are, one by one, the same",
                PromisesBoundariesTest::commonOneByOne);
        sentence("16: REFUSED if one of the images isn't made", PromisesBoundariesTest::commonOfNoImage);
        sentence("17: How many layers of image a are the same as some layer of image b",
                PromisesBoundariesTest::sharedOfSome);
        sentence("17: places counted apart", PromisesBoundariesTest::sharedPlacesApart);
        sentence("17: REFUSED if one of the images isn't made", PromisesBoundariesTest::sharedOfNoImage);
    }

    private static void counts() {
        sentence("18: Images made (0)", PromisesBoundariesTest::countOfImages);
        sentence("18: different layers that store 0 (1), store 1 (2) holds", PromisesBoundariesTest::countOfLayers);
        sentence("18: entries of these together for store 0 (3), store 1 (4)", PromisesBoundariesTest::countOfEntries);
        sentence("18: builds and flattenings answered with an image that store 0 held already (5)",
                PromisesBoundariesTest::countOfAnswersAgain);
        sentence("18: else REFUSED", PromisesBoundariesTest::countOfNothing);
    }

    // Promise 1

    private static void nothingButImage0() {
        ImageStores x = new ImageStores();
        due("images", x.count(0), 1);
        for (int what = 1; what <= 5; what++) {
            due("count " + what, x.count(what), 0);
        }
        due("image 1", x.layers(1), REFUSED);
        due("held by store 0", x.held(0, 0), true);
        due("held by store 1", x.held(1, 0), true);
        dueTree("image 0", x, 0);
        due("collect", x.collect(0), 0);
        due("collect", x.collect(1), 0);
        x.build(0, WRITE, 25, 1);
        due("another object is bare", new ImageStores().count(0), 1);
    }

    // Promise 2

    /** Image 1 is held by store 1 alone; image 2, built on it, by none. */
    private static ImageStores withImagesNotHeld() {
        ImageStores x = new ImageStores();
        x.build(0, WRITE, 31, 1);
        x.build(1, WRITE, 50, 2);
        x.tag(0, 0, 1);
        x.send(0, 0);
        x.untag(0, 0);
        x.collect(0);
        return x;
    }

    private static void buildOnWhatIsNotHeld() {
        ImageStores x = withImagesNotHeld();
        due("held by store 1 alone", x.build(1, WRITE, 50, 2), REFUSED);
        due("held by none", x.build(2, WRITE, 75, 2), REFUSED);
        due("its own tree, held by none", x.build(2, WRITE, 50, 2), REFUSED);
        due("the next, not made", x.build(3, WRITE, 25, 2), REFUSED);
        due("the last number, not made", x.build(39, WRITE, 25, 2), REFUSED);
        for (int image : NO_IMAGES) {
            due("image " + image, x.build(image, WRITE, 25, 2), REFUSED);
        }
        due("image 0, always held", x.build(0, WRITE, 25, 2), 3);
    }

    private static void stepsOutOfRange() {
        ImageStores x = new ImageStores();
        x.build(0, MAKE, 25, 0);
        int[] wrongSteps = {LOW, -5, -1, 5, 6, 10, HIGH};
        for (int step : wrongSteps) {
            due("step " + step, x.build(1, step, 25, 50), REFUSED);
            due("step " + step, x.build(1, step, 50, 75), REFUSED);
        }
        due("the first step", x.build(1, WRITE, 50, 75), 2);
        due("the last step", x.build(1, MOVE, 25, 50), 3);
    }

    private static void stepsRefused() {
        ImageStores x = new ImageStores();
        x.build(0, MAKE, 25, 0);
        due("WRITE", x.build(1, WRITE, 25, 0), REFUSED);
        due("MAKE", x.build(x.build(1, WRITE, 50, 0), MAKE, 50, 0), REFUSED);
        due("REMOVE", x.build(1, REMOVE, 50, 0), REFUSED);
        due("COPY", x.build(1, COPY, 50, 75), REFUSED);
        due("MOVE", x.build(1, MOVE, 25, 25), REFUSED);
        due("images", x.count(0), 3);
        due("answers again", x.count(5), 0);
    }

    private static void buildOfTheOwnTree() {
        ImageStores x = new ImageStores();
        x.build(0, WRITE, 31, 1);
        due("WRITE", x.build(1, WRITE, 31, 1), 1);
        due("MAKE", x.build(1, MAKE, 30, 0), 1);
        due("images", x.count(0), 2);
        due("layers", x.layers(1), 1);
        due("when full", filled().build(39, WRITE, 75, 38), 39);
    }

    private static void build41st() {
        ImageStores x = filled();
        due("a 41st", x.build(39, REMOVE, 25, 0), FULL);
        due("a 41st once more", x.build(39, REMOVE, 25, 0), FULL);
        due("a 41st on image 0", x.build(0, MAKE, 25, 0), FULL);
        due("the tree of an image made, of another parent", x.build(2, REMOVE, 50, 0), FULL);
        due("an image made", x.build(38, WRITE, 75, 38), 39);
        due("an image made on image 0", x.build(0, WRITE, 25, 0), 1);
        x.collect(0);
        due("a 41st, none held", x.build(0, MAKE, 25, 0), FULL);
        due("an image made, no more held", x.build(0, WRITE, 25, 0), 1);
        due("images", x.count(0), 40);
    }

    private static void buildIsHeld() {
        ImageStores x = withImagesNotHeld();
        due("new", x.build(0, WRITE, 75, 3), 3);
        due("new is held", x.held(0, 3), true);
        due("made already, held by store 1 alone", x.build(0, WRITE, 31, 1), 1);
        due("is held again", x.held(0, 1), true);
        due("its child isn't", x.held(0, 2), false);
        due("made already, held by none", x.build(1, WRITE, 50, 2), 2);
        due("is held again", x.held(0, 2), true);
        due("not by store 1", x.held(1, 2), false);
        due("and can be built on", x.build(2, WRITE, 100, 1), 4);
    }

    private static void buildAnswersItsNumber() {
        ImageStores x = new ImageStores();
        for (int i = 1; i <= 39; i++) {
            due("new", x.build(0, WRITE, 25, i), i);
        }
        for (int i = 39; i >= 1; i--) {
            due("made already", x.build(0, WRITE, 25, i), i);
        }
    }

    // Promise 3

    private static void flattenHasOneLayer() {
        ImageStores x = new ImageStores();
        x.build(0, WRITE, 31, 1);
        x.build(1, REMOVE, 31, 0);
        due("two layers", x.flatten(2), 3);
        due("one layer", x.layers(3), 1);
        dueLayer("one layer", x, 3, 0, 25, DIRECTORY, 30, DIRECTORY);
        due("of an image with parent 0", x.flatten(1), 1);
        due("of a flat one", x.flatten(3), 3);
        due("it is the one built on image 0", x.build(0, MAKE, 30, 0), 3);
    }

    private static void flattenOfWhatIsNotHeld() {
        ImageStores x = withImagesNotHeld();
        due("held by store 1 alone", x.flatten(1), REFUSED);
        due("held by none", x.flatten(2), REFUSED);
        due("the next, not made", x.flatten(3), REFUSED);
        due("the last number, not made", x.flatten(39), REFUSED);
        for (int image : NO_IMAGES) {
            due("image " + image, x.flatten(image), REFUSED);
        }
        due("images", x.count(0), 3);
    }

    private static void flattenOfABareTree() {
        ImageStores x = new ImageStores();
        due("image 0", x.flatten(0), 0);
        x.build(0, WRITE, 31, 1);
        x.build(1, REMOVE, 25, 0);
        due("all removed", x.flatten(2), 0);
        due("images", x.count(0), 3);
        due("a directory is left", x.flatten(x.build(1, REMOVE, 30, 0)), 4);
    }

    private static void flatten41st() {
        ImageStores x = filled();
        due("a 41st", x.flatten(39), FULL);
        due("a 41st", x.flatten(2), FULL);
        due("images", x.count(0), 40);
        due("parent 0 already", x.flatten(1), 1);
        due("image 0", x.flatten(0), 0);
        ImageStores y = new ImageStores();
        y.build(0, WRITE, 25, 0);
        y.build(1, REMOVE, 25, 0);
        for (int i = 1; i <= 37; i++) {
            y.build(0, WRITE, 25, i);
        }
        due("images", y.count(0), 40);
        due("a bare tree when full", y.flatten(2), 0);
        due("made already when full", y.flatten(39), 39);
    }

    private static void flattenIsHeld() {
        ImageStores x = new ImageStores();
        x.build(0, WRITE, 25, 1);
        x.build(1, WRITE, 50, 2);
        due("new", x.flatten(2), 3);
        due("new is held", x.held(0, 3), true);
        due("not by store 1", x.held(1, 3), false);
        x.tag(0, 0, 2);
        x.collect(0);
        due("no more held", x.held(0, 3), false);
        due("made already", x.flatten(2), 3);
        due("is held again", x.held(0, 3), true);
    }

    // Promises 4 and 5

    private static void tagAnswersTheOneBefore() {
        ImageStores x = filled();
        x.tag(0, 0, 0);
        due("image 0 before", x.tag(0, 0, 39), 0);
        due("the last image before", x.tag(0, 0, 1), 39);
        due("the same before", x.tag(0, 0, 1), 1);
        due("named", x.named(0, 0), 1);
    }

    private static void tagAnswers40() {
        ImageStores x = new ImageStores();
        x.build(0, WRITE, 25, 1);
        due("the first tag", x.tag(0, 0, 1), 40);
        due("the last tag", x.tag(0, 5, 1), 40);
        due("the other store", x.tag(1, 0, 0), 40);
        x.untag(0, 0);
        due("after untag", x.tag(0, 0, 1), 40);
    }

    private static void tagOfNoStore() {
        ImageStores x = new ImageStores();
        for (int store : WRONG_STORES) {
            due("store " + store, x.tag(store, 0, 0), REFUSED);
        }
        due("store 0", x.named(0, 0), 40);
        due("store 1", x.named(1, 0), 40);
    }

    private static void tagOfNoTag() {
        ImageStores x = new ImageStores();
        for (int tag : WRONG_TAGS) {
            due("tag " + tag, x.tag(0, tag, 0), REFUSED);
            due("tag " + tag + " of store 1", x.tag(1, tag, 0), REFUSED);
        }
    }

    private static void tagOfWhatIsNotHeld() {
        ImageStores x = withImagesNotHeld();
        x.tag(0, 3, 0);
        due("held by store 1 alone", x.tag(0, 3, 1), REFUSED);
        due("held by none", x.tag(1, 3, 2), REFUSED);
        due("not made", x.tag(0, 3, 3), REFUSED);
        due("not made", x.tag(0, 3, 39), REFUSED);
        for (int image : NO_IMAGES) {
            due("image " + image, x.tag(0, 3, image), REFUSED);
        }
        due("still named", x.named(0, 3), 0);
        due("held by store 1", x.tag(1, 3, 1), 40);
    }

    private static void untagNamesNone() {
        ImageStores x = new ImageStores();
        x.build(0, WRITE, 25, 1);
        x.tag(0, 0, 0);
        x.tag(0, 5, 1);
        due("image 0 by the first tag", x.untag(0, 0), 0);
        due("image 1 by the last tag", x.untag(0, 5), 1);
        due("none", x.named(0, 0), 40);
        due("none", x.named(0, 5), 40);
        due("held until it is collected", x.held(0, 1), true);
    }

    private static void untagOutOfRange() {
        ImageStores x = new ImageStores();
        for (int store = 0; store <= 1; store++) {
            for (int tag = 0; tag <= 5; tag++) {
                x.tag(store, tag, 0);
            }
        }
        for (int store : WRONG_STORES) {
            due("store " + store, x.untag(store, 0), REFUSED);
        }
        for (int tag : WRONG_TAGS) {
            due("tag " + tag, x.untag(0, tag), REFUSED);
            due("tag " + tag, x.untag(1, tag), REFUSED);
        }
        due("the last", x.untag(1, 5), 0);
    }

    private static void untagOfNone() {
        ImageStores x = new ImageStores();
        due("at first", x.untag(0, 0), REFUSED);
        x.tag(0, 0, 0);
        due("of the other store", x.untag(1, 0), REFUSED);
        due("the tag beside", x.untag(0, 1), REFUSED);
        x.untag(0, 0);
        due("a second time", x.untag(0, 0), REFUSED);
    }

    // Promise 6

    private static void sendBothWays() {
        ImageStores x = withImagesNotHeld();
        due("from 1 to 0", x.send(1, 0), 1);
        due("held", x.held(0, 1), true);
        due("named", x.named(0, 0), 1);
        due("the sender holds on", x.held(1, 1), true);
        due("the sender names on", x.named(1, 0), 1);
        x.build(1, WRITE, 50, 2);
        x.tag(0, 5, 2);
        due("from 0 to 1", x.send(0, 5), 1);
        due("held", x.held(1, 2), true);
        due("named", x.named(1, 5), 2);
        x.build(2, WRITE, 75, 3);
        x.tag(0, 5, x.build(3, WRITE, 100, 4));
        x.send(0, 5);
        due("the images below aren't held", x.held(1, 3), false);
    }

    private static void sendOverAName() {
        ImageStores x = new ImageStores();
        x.build(0, WRITE, 25, 1);
        x.build(0, WRITE, 50, 2);
        x.tag(0, 0, 1);
        x.send(0, 0);
        x.tag(0, 0, 2);
        due("over another", x.send(0, 0), 1);
        due("named", x.named(1, 0), 2);
        due("the other is held on", x.held(1, 1), true);
        due("over the same", x.send(0, 0), 0);
        due("named", x.named(1, 0), 2);
        x.tag(0, 0, 0);
        due("image 0 over another", x.send(0, 0), 0);
        due("named", x.named(1, 0), 0);
        due("the tag beside", x.named(1, 1), 40);
    }

    private static void sendCountsDifferentLayers() {
        ImageStores x = new ImageStores();
        x.build(0, WRITE, 25, 1);
        x.build(1, REMOVE, 25, 0);
        x.build(2, WRITE, 25, 1);
        x.build(3, WRITE, 50, 2);
        x.tag(0, 0, 0);
        due("image 0", x.send(0, 0), 0);
        x.tag(0, 0, 1);
        due("one", x.send(0, 0), 1);
        x.tag(0, 0, 3);
        due("the same layer twice, held there; one not", x.send(0, 0), 1);
        x.untag(1, 0);
        x.collect(1);
        due("the same layer twice, not held there", x.send(0, 0), 2);
        x.build(0, WRITE, 50, 2);
        x.tag(0, 1, 5);
        x.send(0, 1);
        x.tag(0, 1, 4);
        due("all held there, by other images", x.send(0, 1), 0);
        ImageStores y = filled();
        y.tag(0, 5, 39);
        due("the most", y.send(0, 5), 39);
    }

    private static void sendOutOfRange() {
        ImageStores x = new ImageStores();
        for (int store = 0; store <= 1; store++) {
            for (int tag = 0; tag <= 5; tag++) {
                x.tag(store, tag, 0);
            }
        }
        for (int store : WRONG_STORES) {
            due("store " + store, x.send(store, 0), REFUSED);
        }
        for (int tag : WRONG_TAGS) {
            due("tag " + tag, x.send(0, tag), REFUSED);
            due("tag " + tag, x.send(1, tag), REFUSED);
        }
    }

    private static void sendOfNone() {
        ImageStores x = new ImageStores();
        due("at first", x.send(0, 0), REFUSED);
        x.tag(1, 0, 0);
        due("the other names one", x.send(0, 0), REFUSED);
        due("the other names on", x.named(1, 0), 0);
        x.tag(0, 0, 0);
        x.untag(0, 0);
        due("after untag", x.send(0, 0), REFUSED);
        due("the tag beside", x.send(1, 1), REFUSED);
    }

    // Promise 7

    private static void collectHoldsOnlyNamed() {
        ImageStores x = filled();
        for (int tag = 0; tag <= 5; tag++) {
            x.tag(0, tag, tag == 5 ? 39 : 34 + tag);
        }
        x.collect(0);
        for (int image = 0; image <= 39; image++) {
            boolean named = image == 0 || image >= 34 && image <= 39;
            due("image " + image, x.held(0, image), named);
        }
        for (int tag = 0; tag < 5; tag++) {
            x.untag(0, tag);
        }
        x.tag(0, 4, 39);
        x.collect(0);
        due("by two tags", x.held(0, 39), true);
        due("no more named", x.held(0, 38), false);
        x.send(0, 5);
        x.untag(0, 5);
        x.collect(0);
        due("by one of two tags", x.held(0, 39), true);
        x.untag(0, 4);
        x.collect(0);
        due("by none here", x.held(0, 39), false);
        due("image 0, by none", x.held(0, 0), true);
        due("in the other store", x.held(1, 39), true);
    }

    private static void collectCountsLayers() {
        ImageStores x = new ImageStores();
        due("none", x.collect(0), 0);
        x.build(0, WRITE, 25, 1);
        x.build(1, REMOVE, 25, 0);
        x.build(2, WRITE, 25, 1);
        x.build(0, WRITE, 50, 2);
        x.tag(0, 0, 1);
        due("the same layer is held on", x.collect(0), 2);
        due("a second time", x.collect(0), 0);
        x.tag(0, 0, x.build(1, REMOVE, 25, 0));
        due("its parent's layer is held on", x.collect(0), 0);
        x.untag(0, 0);
        due("all", x.collect(0), 2);
        ImageStores y = filled();
        due("the most", y.collect(0), 39);
        due("the layers held", y.count(1), 0);
    }

    private static void collectOfNoStore() {
        ImageStores x = new ImageStores();
        x.build(0, WRITE, 25, 1);
        for (int store : WRONG_STORES) {
            due("store " + store, x.collect(store), REFUSED);
        }
        due("still held", x.held(0, 1), true);
        due("store 1", x.collect(1), 0);
        due("store 0", x.collect(0), 1);
    }

    // Promises 8 and 9

    private static void namedOrNone() {
        ImageStores x = filled();
        due("none", x.named(0, 0), 40);
        x.tag(0, 0, 0);
        x.tag(0, 5, 39);
        due("image 0", x.named(0, 0), 0);
        due("the last image", x.named(0, 5), 39);
        due("of the other store", x.named(1, 5), 40);
        x.untag(0, 5);
        due("none again", x.named(0, 5), 40);
    }

    private static void namedOutOfRange() {
        ImageStores x = new ImageStores();
        for (int store : WRONG_STORES) {
            due("store " + store, x.named(store, 0), REFUSED);
        }
        for (int tag : WRONG_TAGS) {
            due("tag " + tag, x.named(0, tag), REFUSED);
            due("tag " + tag, x.named(1, tag), REFUSED);
        }
    }

    private static void heldOrNot() {
        ImageStores x = withImagesNotHeld();
        due("store 0, image 1", x.held(0, 1), false);
        due("store 1, image 1", x.held(1, 1), true);
        due("store 0, image 2", x.held(0, 2), false);
        due("store 1, image 2", x.held(1, 2), false);
        due("the last image", filled().held(0, 39), true);
    }

    private static void heldOutOfRange() {
        ImageStores x = filled();
        for (int store : WRONG_STORES) {
            due("store " + store, x.held(store, 0), false);
        }
        for (int image : NO_IMAGES) {
            due("image " + image, x.held(0, image), false);
            due("image " + image, x.held(1, image), false);
        }
    }

    private static void heldNotMadeYet() {
        ImageStores x = new ImageStores();
        due("before", x.held(0, 1), false);
        due("before", x.held(0, 39), false);
        x.build(0, WRITE, 25, 1);
        due("made", x.held(0, 1), true);
        due("the next", x.held(0, 2), false);
    }

    // Promises 10 and 11

    /** Image 1 has the directories 4 and 4/4 and the file 4/4/4, image 2 the file 1 too. */
    private static ImageStores withFirstAndLast() {
        ImageStores x = new ImageStores();
        x.build(0, WRITE, 124, -1);
        x.build(1, WRITE, 25, 0);
        return x;
    }

    private static void lookAtEachKind() {
        ImageStores x = withFirstAndLast();
        due("absent", x.look(1, 25), ABSENT);
        due("below a file", x.look(2, 30), ABSENT);
        due("directory", x.look(2, 100), DIRECTORY);
        due("file", x.look(2, 25), 0);
        due("the last path", x.look(2, 124), -1);
        x.collect(0);
        due("an image no more held", x.look(2, 124), -1);
    }

    private static void lookAtWhatIsNotLegal() {
        ImageStores x = withFirstAndLast();
        for (int path = 1; path <= 24; path++) {
            due("path " + path, x.look(2, path), ABSENT);
        }
        for (int first = 25; first <= 100; first += 25) {
            for (int path = first + 1; path <= first + 4; path++) {
                due("path " + path, x.look(2, path), ABSENT);
            }
        }
    }

    private static void lookAtTheRoot() {
        ImageStores x = withFirstAndLast();
        x.build(1, REMOVE, 100, 0);
        for (int image = 0; image <= 3; image++) {
            due("root of image " + image, x.look(image, 0), DIRECTORY);
        }
    }

    private static void lookAtNoImage() {
        ImageStores x = withFirstAndLast();
        due("the next, not made", x.look(3, 0), NONE);
        due("the last number, not made", x.look(39, 0), NONE);
        for (int image : NO_IMAGES) {
            due("image " + image, x.look(image, 0), NONE);
            due("image " + image + ", a path not legal", x.look(image, 26), NONE);
        }
        due("the last image", filled().look(39, 75), 38);
        due("behind the last image", filled().look(40, 0), NONE);
    }

    private static void lookOutOfRange() {
        ImageStores x = withFirstAndLast();
        for (int path : WRONG_PATHS) {
            due("path " + path, x.look(2, path), NONE);
            due("path " + path + " of image 0", x.look(0, path), NONE);
        }
    }

    private static void nextIsTheLeast() {
        ImageStores x = withFirstAndLast();
        due("from the root", x.next(2, 0), 25);
        due("from a path not legal", x.next(2, 24), 25);
        due("from one that is there", x.next(2, 25), 100);
        due("from just before", x.next(2, 99), 100);
        due("from a file's parent", x.next(2, 120), 124);
        due("from just before the last", x.next(2, 123), 124);
    }

    private static void nextOfNone() {
        ImageStores x = withFirstAndLast();
        due("behind the last path", x.next(2, 124), 125);
        due("from the root alone", x.next(0, 0), 125);
        due("from the root alone", x.next(0, 124), 125);
        x.build(0, WRITE, 25, 1);
        due("behind the only path", x.next(3, 25), 125);
    }

    private static void nextOfNoImage() {
        ImageStores x = withFirstAndLast();
        due("the next, not made", x.next(3, 0), REFUSED);
        due("the last number, not made", x.next(39, 0), REFUSED);
        for (int image : NO_IMAGES) {
            due("image " + image, x.next(image, 0), REFUSED);
        }
        due("behind the last image", filled().next(40, 0), REFUSED);
    }

    private static void nextOutOfRange() {
        ImageStores x = withFirstAndLast();
        for (int path : WRONG_PATHS) {
            due("path " + path, x.next(2, path), REFUSED);
            due("path " + path + " of image 0", x.next(0, path), REFUSED);
        }
    }

    // Promises 12 to 15

    private static void fewestAndMostLayers() {
        ImageStores x = filled();
        due("image 0", x.layers(0), 0);
        due("image 1", x.layers(1), 1);
        due("the last image", x.layers(39), 39);
        x.collect(0);
        due("no more held", x.layers(39), 39);
    }

    private static void layersOfNoImage() {
        ImageStores x = new ImageStores();
        due("the next, not made", x.layers(1), REFUSED);
        due("the last number, not made", x.layers(39), REFUSED);
        for (int image : NO_IMAGES) {
            due("image " + image, x.layers(image), REFUSED);
        }
        due("behind the last image", filled().layers(40), REFUSED);
    }

    private static void fewestAndMostEntries() {
        ImageStores x = new ImageStores();
        int image = 0;
        for (int i = 0; i < 16; i++) {
            image = x.build(image, MAKE, 25 + 5 * (1 + i / 4) + 1 + i % 4, 0);
        }
        due("one new directory", x.entries(image, 15), 1);
        due("three new directories", x.entries(image, 0), 3);
        image = x.build(image, COPY, 25, 100);
        due("the most of one step", x.entries(image, 16), 21);
        image = x.build(image, REMOVE, 25, 0);
        due("GONE, much below", x.entries(image, 17), 1);
    }

    private static void entriesOfNoLayer() {
        ImageStores x = withFirstAndLast();
        int[] wrongLayers = {LOW, -2, -1, 2, 3, 39, HIGH};
        for (int layer : wrongLayers) {
            due("layer " + layer, x.entries(2, layer), REFUSED);
        }
        due("layer 1 of the image below", x.entries(1, 1), REFUSED);
        due("image 0", x.entries(0, 0), REFUSED);
        due("the next image, not made", x.entries(3, 0), REFUSED);
        for (int image : NO_IMAGES) {
            due("image " + image, x.entries(image, 0), REFUSED);
        }
        due("the last layer", filled().entries(39, 38), 1);
        due("behind the last layer", filled().entries(39, 39), REFUSED);
    }

    private static void pathsOfEntries() {
        ImageStores x = withFirstAndLast();
        due("the first entry", x.entryPath(2, 0, 0), 100);
        due("the last entry", x.entryPath(2, 0, 2), 124);
        due("the only entry", x.entryPath(2, 1, 0), 25);
    }

    private static void pathOfNoEntry() {
        ImageStores x = withFirstAndLast();
        int[] wrongNumbers = {LOW, -2, -1, 3, 4, 39, HIGH};
        for (int number : wrongNumbers) {
            due("entry " + number, x.entryPath(2, 0, number), REFUSED);
            due("layer " + number, x.entryPath(2, number, 0), REFUSED);
            due("image " + number, x.entryPath(number, 0, 0), REFUSED);
        }
        due("an entry of the layer below", x.entryPath(2, 1, 1), REFUSED);
        due("a layer of the image above", x.entryPath(1, 1, 0), REFUSED);
        due("image 0", x.entryPath(0, 0, 0), REFUSED);
    }

    private static void marksOfEntries() {
        ImageStores x = withFirstAndLast();
        x.build(2, REMOVE, 120, 0);
        due("directory", x.entryMark(3, 0, 0), DIRECTORY);
        due("file", x.entryMark(3, 0, 2), -1);
        due("file", x.entryMark(3, 1, 0), 0);
        due("gone", x.entryMark(3, 2, 0), GONE);
    }

    private static void markOfNoEntry() {
        ImageStores x = withFirstAndLast();
        int[] wrongNumbers = {LOW, -2, -1, 3, 4, 39, HIGH};
        for (int number : wrongNumbers) {
            due("entry " + number, x.entryMark(2, 0, number), NONE);
            due("layer " + number, x.entryMark(2, number, 0), NONE);
            due("image " + number, x.entryMark(number, 0, 0), NONE);
        }
        due("an entry of the layer below", x.entryMark(2, 1, 1), NONE);
        due("a layer of the image above", x.entryMark(1, 1, 0), NONE);
        due("image 0", x.entryMark(0, 0, 0), NONE);
    }

    // Promises 16 and 17

    /** With the layers A = 1 written to 1, B = 1 gone, C = 2 written to 2: images A, AB, ABA, C, CA, CAB. */
    private static ImageStores withSameLayers() {
        ImageStores x = new ImageStores();
        x.build(0, WRITE, 25, 1);
        x.build(1, REMOVE, 25, 0);
        x.build(2, WRITE, 25, 1);
        x.build(0, WRITE, 50, 2);
        x.build(4, WRITE, 25, 1);
        x.build(5, REMOVE, 25, 0);
        return x;
    }

    private static void commonOneByOne() {
        ImageStores x = withSameLayers();
        due("image 0 with itself", x.common(0, 0), 0);
        due("image 0 with another", x.common(0, 3), 0);
        due("another with image 0", x.common(3, 0), 0);
        due("all of both", x.common(3, 3), 3);
        due("all of the first", x.common(1, 3), 1);
        due("all of the second", x.common(3, 2), 2);
        due("the same, but not in their places", x.common(2, 6), 0);
        x.build(0, MAKE, 75, 0);
        x.flatten(x.build(7, WRITE, 25, 1));
        due("a layer of one entry and a longer one", x.common(9, 1), 0);
        x.build(1, WRITE, 50, 2);
        x.build(10, REMOVE, 25, 0);
        due("not behind one that is another", x.common(11, 3), 1);
        ImageStores y = filled();
        due("the most", y.common(39, 39), 39);
        due("the most of two", y.common(39, 38), 38);
    }

    private static void commonOfNoImage() {
        ImageStores x = withSameLayers();
        int[] notMade = {LOW, -1, 7, 39, 40, HIGH};
        for (int image : notMade) {
            due("first " + image, x.common(image, 0), REFUSED);
            due("second " + image, x.common(0, image), REFUSED);
            due("both " + image, x.common(image, image), REFUSED);
        }
        x.collect(0);
        due("made, no more held", x.common(3, 2), 2);
    }

    private static void sharedOfSome() {
        ImageStores x = withSameLayers();
        due("image 0 with itself", x.shared(0, 0), 0);
        due("image 0 with another", x.shared(0, 3), 0);
        due("another with image 0", x.shared(3, 0), 0);
        due("none", x.shared(4, 3), 0);
        due("in other places", x.shared(6, 3), 2);
        due("all, in other places", x.shared(2, 6), 2);
        due("the most", filled().shared(39, 39), 39);
    }

    private static void sharedPlacesApart() {
        ImageStores x = withSameLayers();
        due("one layer at two places of the first", x.shared(3, 1), 2);
        due("one layer at two places of the second", x.shared(1, 3), 1);
        due("with itself", x.shared(3, 3), 3);
    }

    private static void sharedOfNoImage() {
        ImageStores x = withSameLayers();
        int[] notMade = {LOW, -1, 7, 39, 40, HIGH};
        for (int image : notMade) {
            due("first " + image, x.shared(image, 0), REFUSED);
            due("second " + image, x.shared(0, image), REFUSED);
            due("both " + image, x.shared(image, image), REFUSED);
        }
        x.collect(0);
        due("made, no more held", x.shared(3, 2), 3);
    }

    // Promise 18

    private static void countOfImages() {
        ImageStores x = new ImageStores();
        due("image 0 alone", x.count(0), 1);
        x.build(0, WRITE, 25, 1);
        x.collect(0);
        due("made, held by none", x.count(0), 2);
        due("the most", filled().count(0), 40);
    }

    private static void countOfLayers() {
        ImageStores x = withSameLayers();
        due("store 0, the same layer once", x.count(1), 3);
        due("store 1, none", x.count(2), 0);
        x.tag(0, 0, 3);
        x.send(0, 0);
        due("store 1, the same layer once", x.count(2), 2);
        x.untag(0, 0);
        x.collect(0);
        due("store 0, none", x.count(1), 0);
        due("store 1, as before", x.count(2), 2);
        due("the most", filled().count(1), 39);
    }

    private static void countOfEntries() {
        ImageStores x = new ImageStores();
        due("store 0, none", x.count(3), 0);
        x.build(0, WRITE, 31, 1);
        x.build(1, REMOVE, 25, 0);
        x.build(2, WRITE, 31, 1);
        due("store 0, the same layer once", x.count(3), 4);
        due("store 1, none", x.count(4), 0);
        x.tag(0, 0, 1);
        x.send(0, 0);
        due("store 1", x.count(4), 3);
        x.collect(0);
        due("store 0, one layer is held on", x.count(3), 3);
        x.untag(0, 0);
        x.collect(0);
        due("store 0, none", x.count(3), 0);
        due("store 1, as before", x.count(4), 3);
    }

    private static void countOfAnswersAgain() {
        ImageStores x = new ImageStores();
        x.build(0, WRITE, 25, 1);
        due("a new image", x.count(5), 0);
        x.build(0, WRITE, 25, 1);
        due("a build answered again", x.count(5), 1);
        x.build(1, WRITE, 25, 1);
        due("a build of the own tree", x.count(5), 2);
        x.flatten(1);
        due("a flattening answered again", x.count(5), 3);
        x.flatten(0);
        due("a flattening of image 0", x.count(5), 4);
        x.build(1, WRITE, 30, 1);
        x.flatten(2);
        due("refused", x.count(5), 4);
        x.collect(0);
        x.build(0, WRITE, 25, 1);
        due("made already, held no more", x.count(5), 4);
        x.tag(0, 0, x.build(1, WRITE, 50, 1));
        x.flatten(2);
        x.collect(0);
        x.flatten(2);
        due("flattened already, held no more", x.count(5), 4);
        x.flatten(2);
        due("held again", x.count(5), 5);
        ImageStores y = filled();
        y.build(39, REMOVE, 25, 0);
        y.flatten(39);
        due("FULL", y.count(5), 0);
    }

    private static void countOfNothing() {
        ImageStores x = withSameLayers();
        int[] wrongNumbers = {LOW, -2, -1, 6, 7, HIGH};
        for (int what : wrongNumbers) {
            due("count " + what, x.count(what), REFUSED);
        }
    }
}
