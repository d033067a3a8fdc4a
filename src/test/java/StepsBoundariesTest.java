import java.util.ArrayList;
import java.util.List;
import java.util.function.ToLongFunction;

/** Each sentence of the document's "STEPS" that names a boundary case, and that refused calls change nothing. */
public final class StepsBoundariesTest extends Checks {
    private static final int[] NOT_LEGAL = {0, 1, 4, 5, 24, 26, 29, 51, 54, 76, 101, 104};

    public static void main(String[] args) {
        allSteps();
        writeAndMake();
        removal();
        copyAndMove();
        refusedCalls();
        finish("boundaries of the steps");
    }

    private static void allSteps() {
        sentence("STEPS change a copy of an image's tree", StepsBoundariesTest::theImageStays);
        sentence("path must be legal, else REFUSED", StepsBoundariesTest::pathsNotLegal);
        sentence("for steps 3 and 4, the argument must be legal, else REFUSED",
                StepsBoundariesTest::argumentsNotLegal);
        sentence("The argument means nothing for 1 and 2.", StepsBoundariesTest::argumentsThatMeanNothing);
    }

    private static void writeAndMake() {
        sentence("0 WRITE: the path becomes a file with the content argument",
                StepsBoundariesTest::writeOverAFile);
        sentence("0 WRITE: missing directories above it are made", StepsBoundariesTest::writeMakesAllAbove);
        sentence("0 WRITE: REFUSED if a path that it lies below is a file", StepsBoundariesTest::writeBelowAFile);
        sentence("0 WRITE: REFUSED if the path is a directory", StepsBoundariesTest::writeOnADirectory);
        sentence("1 MAKE: the path becomes a directory, and missing ones above it",
                StepsBoundariesTest::makeMakesAllAbove);
        sentence("1 MAKE: REFUSED if it is a file", StepsBoundariesTest::makeOnAFile);
        sentence("1 MAKE: REFUSED if a path that it lies below is a file", StepsBoundariesTest::makeBelowAFile);
        sentence("1 MAKE: a directory that is there stays", StepsBoundariesTest::makeWhatIsThere);
    }

    private static void removal() {
        sentence("2 REMOVE: the path and all below become absent", StepsBoundariesTest::removeAllBelow);
        sentence("2 REMOVE: REFUSED if it is absent", StepsBoundariesTest::removeWhatIsAbsent);
    }

    private static void copyAndMove() {
        sentence("3 COPY: the path with all below is also put at the path argument",
                StepsBoundariesTest::copyWithAllBelow);
        sentence("3 COPY: names kept below", StepsBoundariesTest::copyKeepsNamesBelow);
        sentence("3 COPY: REFUSED if the path is absent", () -> eachOf(StepsBoundariesTest::fromWhatIsAbsent));
        sentence("3 COPY: REFUSED if the argument is not absent", () -> eachOf(StepsBoundariesTest::toWhatIsThere));
        sentence("3 COPY: REFUSED if its parent is neither the root nor a directory",
                () -> eachOf(StepsBoundariesTest::toWhereNoDirectoryIs));
        sentence("3 COPY: REFUSED if the argument is the path", () -> eachOf(StepsBoundariesTest::toThePath));
        sentence("3 COPY: REFUSED if the argument lies below it", () -> eachOf(StepsBoundariesTest::toBelowThePath));
        sentence("3 COPY: REFUSED if something would have more than three names",
                () -> eachOf(StepsBoundariesTest::toMoreThanThreeNames));
        sentence("4 MOVE: as COPY, then the path and all below become absent", StepsBoundariesTest::moveTakesAway);
        sentence("4 MOVE: (with its refusals)", StepsBoundariesTest::moveRefusedTakesNothingAway);
    }

    private static void refusedCalls() {
        sentence("Every refused call changes nothing", StepsBoundariesTest::refusedCallsChangeNothing);
        sentence("Every refused call changes nothing (a FULL one neither)", StepsBoundariesTest::fullChangesNothing);
        sentence("numbers out of range are REFUSED before all else", StepsBoundariesTest::refusedBeforeAllElse);
    }

    // All steps

    private static void theImageStays() {
        ImageStores x = new ImageStores();
        x.build(0, WRITE, 31, 1);
        int[][] steps = {{WRITE, 31, 2}, {MAKE, 50, 0}, {REMOVE, 25, 0}, {COPY, 25, 75}, {MOVE, 31, 100}};
        for (int i = 0; i < steps.length; i++) {
            due("step " + i, x.build(1, steps[i][0], steps[i][1], steps[i][2]), i + 2);
            dueTree("the image, after step " + i, x, 1, 25, DIRECTORY, 30, DIRECTORY, 31, 1);
        }
    }

    private static void pathsNotLegal() {
        ImageStores x = new ImageStores();
        x.build(0, MAKE, 25, 0);
        for (int step = WRITE; step <= MOVE; step++) {
            for (int path : NOT_LEGAL) {
                due("step " + step + " at " + path, x.build(1, step, path, 50), REFUSED);
            }
            for (int path : WRONG_PATHS) {
                due("step " + step + " at " + path, x.build(1, step, path, 50), REFUSED);
            }
        }
        due("images", x.count(0), 2);
    }

    private static void argumentsNotLegal() {
        ImageStores x = new ImageStores();
        x.build(0, MAKE, 25, 0);
        for (int step = COPY; step <= MOVE; step++) {
            for (int argument : NOT_LEGAL) {
                due("step " + step + " to " + argument, x.build(1, step, 25, argument), REFUSED);
            }
            for (int argument : WRONG_PATHS) {
                due("step " + step + " to " + argument, x.build(1, step, 25, argument), REFUSED);
            }
        }
        due("images", x.count(0), 2);
        due("WRITE of a content that is no path", x.build(1, WRITE, 50, 26), 2);
    }

    private static void argumentsThatMeanNothing() {
        ImageStores x = new ImageStores();
        x.build(0, MAKE, 25, 0);
        int[] arguments = {LOW, -1, 0, 1, 25, 26, 50, 124, 125, HIGH};
        for (int argument : arguments) {
            due("MAKE with " + argument, x.build(1, MAKE, 50, argument), 2);
            due("REMOVE with " + argument, x.build(2, REMOVE, 25, argument), 3);
        }
        dueTree("MAKE", x, 2, 25, DIRECTORY, 50, DIRECTORY);
        dueTree("REMOVE", x, 3, 50, DIRECTORY);
    }

    // 0 WRITE, 1 MAKE

    private static void writeOverAFile() {
        ImageStores x = new ImageStores();
        due("where nothing is", x.build(0, WRITE, 25, HIGH), 1);
        due("over a file", x.build(1, WRITE, 25, LOW), 2);
        dueTree("over a file", x, 2, 25, LOW);
        due("the same over it", x.build(2, WRITE, 25, LOW), 2);
    }

    private static void writeMakesAllAbove() {
        ImageStores x = new ImageStores();
        x.build(0, WRITE, 124, 0);
        dueTree("two are missing", x, 1, 100, DIRECTORY, 120, DIRECTORY, 124, 0);
        x.build(1, WRITE, 106, 1);
        dueTree("one is missing", x, 2, 100, DIRECTORY, 105, DIRECTORY, 106, 1, 120, DIRECTORY, 124, 0);
        x.build(2, WRITE, 107, 2);
        dueTopLayer("none is missing", x, 3, 107, 2);
        x.build(3, WRITE, 25, 3);
        dueTopLayer("none above but the root", x, 4, 25, 3);
    }

    private static void writeBelowAFile() {
        ImageStores x = new ImageStores();
        x.build(0, WRITE, 25, 0);
        x.build(1, WRITE, 55, 0);
        due("one below", x.build(2, WRITE, 30, 1), REFUSED);
        due("the last one below", x.build(2, WRITE, 45, 1), REFUSED);
        due("two below, between them nothing", x.build(2, WRITE, 31, 1), REFUSED);
        due("the last two below", x.build(2, WRITE, 49, 1), REFUSED);
        due("one below, a directory above", x.build(2, WRITE, 56, 1), REFUSED);
        due("the last below, a directory above", x.build(2, WRITE, 59, 1), REFUSED);
        due("beside the file", x.build(2, WRITE, 61, 1), 3);
    }

    private static void writeOnADirectory() {
        ImageStores x = new ImageStores();
        x.build(0, MAKE, 31, 0);
        due("one name", x.build(1, WRITE, 25, 1), REFUSED);
        due("two names", x.build(1, WRITE, 30, 1), REFUSED);
        due("three names, nothing below", x.build(1, WRITE, 31, 1), REFUSED);
        due("gone before", x.build(x.build(1, REMOVE, 25, 0), WRITE, 25, 1), 3);
    }

    private static void makeMakesAllAbove() {
        ImageStores x = new ImageStores();
        x.build(0, MAKE, 124, 0);
        dueTree("two are missing", x, 1, 100, DIRECTORY, 120, DIRECTORY, 124, DIRECTORY);
        x.build(1, MAKE, 106, 0);
        dueTopLayer("one is missing", x, 2, 105, DIRECTORY, 106, DIRECTORY);
        x.build(2, MAKE, 107, 0);
        dueTopLayer("none is missing", x, 3, 107, DIRECTORY);
        x.build(3, MAKE, 25, 0);
        dueTopLayer("none above but the root", x, 4, 25, DIRECTORY);
    }

    private static void makeOnAFile() {
        ImageStores x = new ImageStores();
        x.build(0, WRITE, 25, 0);
        x.build(1, WRITE, 55, 0);
        x.build(2, WRITE, 81, 0);
        due("one name", x.build(3, MAKE, 25, 0), REFUSED);
        due("two names", x.build(3, MAKE, 55, 0), REFUSED);
        due("three names", x.build(3, MAKE, 81, 0), REFUSED);
    }

    private static void makeBelowAFile() {
        ImageStores x = new ImageStores();
        x.build(0, WRITE, 25, 0);
        x.build(1, WRITE, 55, 0);
        due("one below", x.build(2, MAKE, 30, 0), REFUSED);
        due("two below, between them nothing", x.build(2, MAKE, 49, 0), REFUSED);
        due("one below, a directory above", x.build(2, MAKE, 56, 0), REFUSED);
        due("beside the file", x.build(2, MAKE, 60, 0), 3);
    }

    private static void makeWhatIsThere() {
        ImageStores x = new ImageStores();
        x.build(0, WRITE, 31, 1);
        due("one name, more below", x.build(1, MAKE, 25, 0), 1);
        due("two names, more below", x.build(1, MAKE, 30, 0), 1);
        dueTree("what is below stays", x, 1, 25, DIRECTORY, 30, DIRECTORY, 31, 1);
    }

    // 2 REMOVE

    private static void removeAllBelow() {
        ImageStores x = new ImageStores();
        x.build(0, WRITE, 31, 1);
        x.build(1, WRITE, 49, 2);
        due("a file", x.build(2, REMOVE, 31, 0), 3);
        dueTree("those above stay, empty ones too", x, 3, 25, DIRECTORY, 30, DIRECTORY, 45, DIRECTORY, 49, 2);
        due("a directory with one below", x.build(2, REMOVE, 45, 0), 4);
        dueTree("a directory with one below", x, 4, 25, DIRECTORY, 30, DIRECTORY, 31, 1);
        due("the only first name", x.build(2, REMOVE, 25, 0), 5);
        dueTree("the root alone", x, 5);
        due("an empty directory", x.build(3, REMOVE, 30, 0), 6);
        dueTree("an empty directory", x, 6, 25, DIRECTORY, 45, DIRECTORY, 49, 2);
    }

    private static void removeWhatIsAbsent() {
        ImageStores x = new ImageStores();
        due("in the root alone", x.build(0, REMOVE, 25, 0), REFUSED);
        x.build(0, WRITE, 31, 1);
        x.build(1, WRITE, 50, 1);
        due("beside", x.build(2, REMOVE, 32, 0), REFUSED);
        due("below a file", x.build(2, REMOVE, 55, 0), REFUSED);
        due("below what is absent", x.build(2, REMOVE, 81, 0), REFUSED);
        due("what is there", x.build(2, REMOVE, 31, 0), 3);
        due("a second time", x.build(3, REMOVE, 31, 0), REFUSED);
    }

    // 3 COPY, 4 MOVE

    /** MOVE has the refusals of COPY. */
    private interface OfStep {
        void run(int step);
    }

    private static void eachOf(OfStep test) {
        test.run(COPY);
        test.run(MOVE);
    }

    private static void copyWithAllBelow() {
        ImageStores x = new ImageStores();
        x.build(0, WRITE, 31, 1);
        x.build(1, WRITE, 49, 2);
        due("one name", x.build(2, COPY, 25, 100), 3);
        dueTree("the first and the last below", x, 3, 25, DIRECTORY, 30, DIRECTORY, 31, 1, 45, DIRECTORY, 49, 2,
                100, DIRECTORY, 105, DIRECTORY, 106, 1, 120, DIRECTORY, 124, 2);
        due("two names", x.build(2, COPY, 45, 35), 4);
        dueTopLayer("two names", x, 4, 35, DIRECTORY, 39, 2);
        due("three names", x.build(2, COPY, 49, 46), 5);
        dueTopLayer("three names", x, 5, 46, 2);
        x.build(0, MAKE, 75, 0);
        due("an empty directory", x.build(6, COPY, 75, 50), 7);
        dueTopLayer("an empty directory", x, 7, 50, DIRECTORY);
    }

    private static void copyKeepsNamesBelow() {
        ImageStores x = new ImageStores();
        x.build(0, WRITE, 49, 1);
        due("two names to one", x.build(1, COPY, 45, 100), 2);
        dueTopLayer("two names to one", x, 2, 100, DIRECTORY, 120, 1);
        due("one name to two", x.build(2, COPY, 100, 30), 3);
        dueTopLayer("one name to two", x, 3, 30, DIRECTORY, 34, 1);
        due("three names to one", x.build(3, COPY, 34, 75), 4);
        dueTopLayer("three names to one", x, 4, 75, 1);
        due("one name to three", x.build(4, COPY, 75, 31), 5);
        dueTopLayer("one name to three", x, 5, 31, 1);
        due("three names to two", x.build(5, COPY, 49, 40), 6);
        dueTopLayer("three names to two", x, 6, 40, 1);
        due("two names to three", x.build(6, COPY, 40, 32), 7);
        dueTopLayer("two names to three", x, 7, 32, 1);
    }

    /** Image 4 has the file 1/1/1, the file 2, and the directories 3, 3/1 and 3/1/1. */
    private static ImageStores withPlaces() {
        ImageStores x = new ImageStores();
        x.build(0, WRITE, 31, 5);
        x.build(1, WRITE, 50, 6);
        x.build(2, MAKE, 80, 0);
        x.build(3, MAKE, 81, 0);
        return x;
    }

    private static void fromWhatIsAbsent(int step) {
        ImageStores x = withPlaces();
        due("one name", x.build(4, step, 100, 85), REFUSED);
        due("two names", x.build(4, step, 35, 100), REFUSED);
        due("three names", x.build(4, step, 32, 100), REFUSED);
        due("below a file", x.build(4, step, 55, 100), REFUSED);
        due("what is there", x.build(4, step, 31, 100), 5);
    }

    private static void toWhatIsThere(int step) {
        ImageStores x = withPlaces();
        due("a file", x.build(4, step, 31, 50), REFUSED);
        due("a directory of one name", x.build(4, step, 50, 75), REFUSED);
        due("a directory of two names", x.build(4, step, 50, 80), REFUSED);
        due("an empty directory", x.build(4, step, 31, 81), REFUSED);
        due("the directory that it is in", x.build(4, step, 31, 30), REFUSED);
        due("what is absent", x.build(4, step, 31, 82), 5);
    }

    private static void toWhereNoDirectoryIs(int step) {
        ImageStores x = withPlaces();
        due("below a file", x.build(4, step, 31, 55), REFUSED);
        due("two below a file", x.build(4, step, 31, 56), REFUSED);
        due("below what is absent", x.build(4, step, 50, 105), REFUSED);
        due("below what is absent, a directory above", x.build(4, step, 50, 86), REFUSED);
        due("below the root", x.build(4, step, 50, 100), 5);
        due("below a directory", x.build(4, step, 50, 85), 6);
        due("below an empty directory", x.build(4, step, 50, 82), 7);
    }

    private static void toThePath(int step) {
        ImageStores x = withPlaces();
        due("a file", x.build(4, step, 50, 50), REFUSED);
        due("a directory", x.build(4, step, 75, 75), REFUSED);
        due("an empty directory", x.build(4, step, 81, 81), REFUSED);
        due("what is absent", x.build(4, step, 100, 100), REFUSED);
    }

    private static void toBelowThePath(int step) {
        ImageStores x = new ImageStores();
        x.build(0, MAKE, 50, 0);
        x.build(1, MAKE, 80, 0);
        due("an empty directory, the first below", x.build(2, step, 50, 55), REFUSED);
        due("an empty directory, the last below", x.build(2, step, 50, 70), REFUSED);
        due("an empty directory, two below", x.build(2, step, 50, 56), REFUSED);
        due("two names, the first below", x.build(2, step, 80, 81), REFUSED);
        due("two names, the last below", x.build(2, step, 80, 84), REFUSED);
        due("just behind all below", x.build(2, step, 80, 85), 3);
        due("below another", x.build(2, step, 50, 81), 4);
        due("just before it", x.build(2, step, 50, 25), 5);
    }

    private static void toMoreThanThreeNames(int step) {
        ImageStores x = withPlaces();
        due("one name with three, to two", x.build(4, step, 25, 85), REFUSED);
        due("one name with three, to three", x.build(4, step, 25, 82), REFUSED);
        due("two names with three, to three", x.build(4, step, 30, 82), REFUSED);
        due("one name with three, to one", x.build(4, step, 25, 100), 5);
        due("two names with three, to two", x.build(4, step, 30, 85), 6);
        due("three names, to three", x.build(4, step, 31, 82), 7);
        due("one name alone, to three", x.build(4, step, 50, 82), 8);
        ImageStores y = new ImageStores();
        y.build(0, WRITE, 30, 1);
        y.build(1, MAKE, 80, 0);
        due("one name with two, to three", y.build(2, step, 25, 81), REFUSED);
        due("one name with two, to two", y.build(2, step, 25, 85), 3);
        ImageStores z = new ImageStores();
        z.build(0, WRITE, 49, 1);
        z.build(1, MAKE, 75, 0);
        due("one name with three as the last below, to two", z.build(2, step, 25, 80), REFUSED);
    }

    private static void moveTakesAway() {
        ImageStores x = new ImageStores();
        x.build(0, WRITE, 31, 1);
        x.build(1, WRITE, 49, 2);
        due("one name", x.build(2, MOVE, 25, 100), 3);
        dueTree("one name", x, 3, 100, DIRECTORY, 105, DIRECTORY, 106, 1, 120, DIRECTORY, 124, 2);
        due("two names to one", x.build(2, MOVE, 45, 50), 4);
        dueTree("two names to one", x, 4, 25, DIRECTORY, 30, DIRECTORY, 31, 1, 50, DIRECTORY, 70, 2);
        due("a file", x.build(2, MOVE, 31, 46), 5);
        dueTree("the directory that it was in stays", x, 5, 25, DIRECTORY, 30, DIRECTORY, 45, DIRECTORY, 46, 1, 49, 2);
        due("and back", x.build(5, MOVE, 46, 31), 6);
        dueTree("and back", x, 6, 25, DIRECTORY, 30, DIRECTORY, 31, 1, 45, DIRECTORY, 49, 2);
    }

    private static void moveRefusedTakesNothingAway() {
        ImageStores x = withPlaces();
        int[][] moves = {{100, 85}, {31, 50}, {31, 55}, {31, 31}, {75, 85}, {25, 85}};
        for (int[] move : moves) {
            due("MOVE " + move[0] + " to " + move[1], x.build(4, MOVE, move[0], move[1]), REFUSED);
        }
        due("images", x.count(0), 5);
        dueTree("the image", x, 4, 25, DIRECTORY, 30, DIRECTORY, 31, 5, 50, 6, 75, DIRECTORY, 80, DIRECTORY, 81, DIRECTORY);
    }

    // Refused calls

    /** Image 1 is held by both stores, image 2 by store 0 alone, image 3 by store 1 alone. */
    private static ImageStores withBothStores() {
        ImageStores x = new ImageStores();
        x.build(0, WRITE, 31, 1);
        x.build(1, WRITE, 50, 2);
        x.build(0, WRITE, 75, 3);
        x.tag(0, 0, 1);
        x.tag(0, 1, 2);
        x.tag(0, 2, 3);
        x.send(0, 0);
        x.send(0, 2);
        x.untag(0, 2);
        x.collect(0);
        return x;
    }

    /** All that the calls for looking tell of images 0 to 4 and of both stores. */
    private static String state(ImageStores x) {
        StringBuilder text = new StringBuilder();
        for (int what = 0; what <= 5; what++) {
            text.append(x.count(what)).append(' ');
        }
        for (int store = 0; store <= 1; store++) {
            for (int tag = 0; tag <= 5; tag++) {
                text.append(x.named(store, tag)).append(' ');
            }
            for (int image = 0; image <= 4; image++) {
                text.append(x.held(store, image)).append(' ');
            }
        }
        for (int image = 0; image <= 4; image++) {
            text.append("image ").append(image).append(": ");
            for (int path = x.next(image, 0); path >= 0 && path < 125; path = x.next(image, path)) {
                text.append(path).append('=').append(x.look(image, path)).append(' ');
            }
            for (int layer = 0; layer < x.layers(image); layer++) {
                text.append("layer of ").append(x.entries(image, layer)).append(' ');
            }
        }
        return text.toString();
    }

    private static List<ToLongFunction<ImageStores>> callsThatAreRefused() {
        List<ToLongFunction<ImageStores>> calls = new ArrayList<>();
        calls.add(x -> x.build(-1, WRITE, 100, 1));
        calls.add(x -> x.build(3, WRITE, 100, 1));
        calls.add(x -> x.build(4, WRITE, 100, 1));
        calls.add(x -> x.build(2, -1, 100, 1));
        calls.add(x -> x.build(2, 5, 100, 1));
        calls.add(x -> x.build(2, WRITE, 125, 1));
        calls.add(x -> x.build(2, WRITE, 26, 1));
        calls.add(x -> x.build(2, WRITE, 56, 1));
        calls.add(x -> x.build(2, WRITE, 30, 1));
        calls.add(x -> x.build(2, MAKE, 31, 0));
        calls.add(x -> x.build(2, MAKE, 56, 0));
        calls.add(x -> x.build(2, REMOVE, 100, 0));
        calls.add(x -> x.build(2, COPY, 100, 75));
        calls.add(x -> x.build(2, COPY, 31, 50));
        calls.add(x -> x.build(2, COPY, 31, 55));
        calls.add(x -> x.build(2, MOVE, 25, 35));
        calls.add(x -> x.build(2, MOVE, 25, 56));
        calls.add(x -> x.build(2, MOVE, 31, 26));
        calls.add(x -> x.flatten(-1));
        calls.add(x -> x.flatten(3));
        calls.add(x -> x.flatten(4));
        calls.add(x -> x.tag(2, 0, 1));
        calls.add(x -> x.tag(0, 6, 1));
        calls.add(x -> x.tag(0, 0, 3));
        calls.add(x -> x.tag(1, 0, 2));
        calls.add(x -> x.tag(0, 0, 40));
        calls.add(x -> x.untag(-1, 0));
        calls.add(x -> x.untag(0, -1));
        calls.add(x -> x.untag(0, 5));
        calls.add(x -> x.send(2, 0));
        calls.add(x -> x.send(0, 6));
        calls.add(x -> x.send(0, 2));
        calls.add(x -> x.send(1, 1));
        calls.add(x -> x.collect(-1));
        calls.add(x -> x.collect(2));
        calls.add(x -> x.named(0, 6));
        calls.add(x -> x.next(4, 0));
        calls.add(x -> x.layers(4));
        calls.add(x -> x.entries(0, 0));
        calls.add(x -> x.entryPath(1, 0, 3));
        calls.add(x -> x.common(1, 4));
        calls.add(x -> x.shared(4, 1));
        calls.add(x -> x.count(6));
        return calls;
    }

    private static void refusedCallsChangeNothing() {
        List<ToLongFunction<ImageStores>> calls = callsThatAreRefused();
        for (int i = 0; i < calls.size(); i++) {
            ImageStores x = withBothStores();
            String before = state(x);
            due("refused call " + i, calls.get(i).applyAsLong(x), REFUSED);
            due("state after the refused call " + i, state(x), before);
            due("a build after the refused call " + i, x.build(2, MAKE, 100, 0), 4);
            dueTree("a build after the refused call " + i, x, 4,
                    25, DIRECTORY, 30, DIRECTORY, 31, 1, 50, 2, 100, DIRECTORY);
        }
    }

    private static void fullChangesNothing() {
        ImageStores x = filled();
        String before = state(x);
        due("build", x.build(39, REMOVE, 25, 0), FULL);
        due("flatten", x.flatten(39), FULL);
        due("state", state(x), before);
        dueTree("the image", x, 39, 25, 36, 50, 37, 75, 38, 100, 35);
        due("image 40", x.held(0, 40), false);
        due("image 40", x.look(40, 0), NONE);
    }

    private static void refusedBeforeAllElse() {
        ImageStores x = filled();
        due("not FULL, image", x.build(40, WRITE, 25, 99), REFUSED);
        due("not FULL, image", x.build(-1, WRITE, 25, 99), REFUSED);
        due("not FULL, step", x.build(39, 5, 25, 99), REFUSED);
        due("not FULL, step", x.build(39, -1, 25, 99), REFUSED);
        due("not FULL, path", x.build(39, WRITE, 125, 99), REFUSED);
        due("not FULL, path", x.build(39, WRITE, -1, 99), REFUSED);
        due("not FULL, argument", x.build(1, COPY, 25, 125), REFUSED);
        due("not FULL, the step is refused", x.build(39, WRITE, 30, 99), REFUSED);
        due("not FULL, image to flatten", x.flatten(40), REFUSED);
        due("not the image's own tree", x.build(0, 5, 25, 0), REFUSED);
        due("all in range", x.build(39, WRITE, 25, 99), FULL);
    }
}
