import java.util.ArrayList;
import java.util.Arrays;

/** A builder and two registries of container images, as ../shared/DOC.md tells it. */
public final class ImageStores {
    public static final int REFUSED = -1;
    public static final int FULL = -2;
    public static final long ABSENT = 10000000000L;
    public static final long DIRECTORY = 10000000001L;
    public static final long GONE = 10000000002L;
    public static final long NONE = 10000000003L;

    private static final int MOST_IMAGES = 40;
    private static final int BARE_IMAGE = 0;
    private static final int NO_PARENT = -1;
    private static final int UNNAMED = 40;
    private static final int TAGS = 6;
    private static final int PATHS = 125;
    private static final int MOST_NAMES = 3;

    private static final int WRITE = 0;
    private static final int MAKE = 1;
    private static final int REMOVE = 2;
    private static final int COPY = 3;
    private static final int MOVE = 4;

    private final ArrayList<Image> images;
    private final ArrayList<Layer> differentLayers;
    private final Store builderStore;
    private final Store otherStore;
    /** Steps work here, so that a refused one leaves every image as it was. */
    private final Tree draft;
    /** By layer number; kept so that counting makes no new rows. */
    private final boolean[] layerSeen;
    private int answeredAgain;

    public ImageStores() {
        images = new ArrayList<Image>();
        differentLayers = new ArrayList<Layer>();
        builderStore = new Store();
        otherStore = new Store();
        draft = new Tree();
        layerSeen = new boolean[MOST_IMAGES];
        answeredAgain = 0;
        images.add(new Image(NO_PARENT, new Tree(), new int[0]));
    }

    public int build(int image, int step, int path, int argument) {
        if (!isMade(image) || !builderStore.holds(image)) {
            return REFUSED;
        }
        draft.become(images.get(image).tree);
        if (!draft.change(step, path, argument)) {
            return REFUSED;
        }
        return answerDraftOn(image);
    }

    public int flatten(int image) {
        if (!isMade(image) || !builderStore.holds(image)) {
            return REFUSED;
        }
        draft.become(images.get(image).tree);
        return answerDraftOn(BARE_IMAGE);
    }

    public int tag(int store, int tag, int image) {
        if (!isStore(store) || !isTag(tag) || !storeOf(store).holds(image)) {
            return REFUSED;
        }
        int before = storeOf(store).nameOf(tag);
        storeOf(store).giveName(tag, image);
        return before;
    }

    public int untag(int store, int tag) {
        if (!namesImage(store, tag)) {
            return REFUSED;
        }
        int before = storeOf(store).nameOf(tag);
        storeOf(store).giveName(tag, UNNAMED);
        return before;
    }

    public int send(int store, int tag) {
        if (!namesImage(store, tag)) {
            return REFUSED;
        }
        int image = storeOf(store).nameOf(tag);
        Store receiver = storeOf(1 - store);
        int layersBefore = layersIn(receiver);
        receiver.hold(image);
        receiver.giveName(tag, image);
        return layersIn(receiver) - layersBefore;
    }

    public int collect(int store) {
        if (!isStore(store)) {
            return REFUSED;
        }
        int layersBefore = layersIn(storeOf(store));
        storeOf(store).holdOnlyNamed();
        return layersBefore - layersIn(storeOf(store));
    }

    public int named(int store, int tag) {
        if (!isStore(store) || !isTag(tag)) {
            return REFUSED;
        }
        return storeOf(store).nameOf(tag);
    }

    public boolean held(int store, int image) {
        return isStore(store) && storeOf(store).holds(image);
    }

    public long look(int image, int path) {
        if (!isMade(image) || !Path.inRange(path)) {
            return NONE;
        }
        return images.get(image).tree.at(path);
    }

    public int next(int image, int path) {
        if (!isMade(image) || !Path.inRange(path)) {
            return REFUSED;
        }
        return images.get(image).tree.presentAfter(path);
    }

    public int layers(int image) {
        return isMade(image) ? images.get(image).layerNumbers.length : REFUSED;
    }

    public int entries(int image, int layer) {
        return hasLayer(image, layer) ? layerOf(image, layer).size() : REFUSED;
    }

    public int entryPath(int image, int layer, int entry) {
        return hasEntry(image, layer, entry) ? layerOf(image, layer).paths[entry] : REFUSED;
    }

    public long entryMark(int image, int layer, int entry) {
        return hasEntry(image, layer, entry) ? layerOf(image, layer).marks[entry] : NONE;
    }

    public int common(int a, int b) {
        if (!isMade(a) || !isMade(b)) {
            return REFUSED;
        }
        int[] first = images.get(a).layerNumbers;
        int[] second = images.get(b).layerNumbers;
        int bound = Math.min(first.length, second.length);
        int same = 0;
        while (same < bound && first[same] == second[same]) {
            same++;
        }
        return same;
    }

    public int shared(int a, int b) {
        if (!isMade(a) || !isMade(b)) {
            return REFUSED;
        }
        int found = 0;
        for (int number : images.get(a).layerNumbers) {
            if (images.get(b).hasLayerNumber(number)) {
                found++;
            }
        }
        return found;
    }

    public int count(int what) {
        switch (what) {
            case 0:
                return images.size();
            case 1:
                return layersIn(builderStore);
            case 2:
                return layersIn(otherStore);
            case 3:
                return entriesIn(builderStore);
            case 4:
                return entriesIn(otherStore);
            case 5:
                return answeredAgain;
            default:
                return REFUSED;
        }
    }

    private boolean isMade(int image) {
        return image >= 0 && image < images.size();
    }

    private static boolean isStore(int store) {
        return store == 0 || store == 1;
    }

    private static boolean isTag(int tag) {
        return tag >= 0 && tag < TAGS;
    }

    private Store storeOf(int store) {
        return store == 0 ? builderStore : otherStore;
    }

    private boolean namesImage(int store, int tag) {
        return isStore(store) && isTag(tag) && storeOf(store).nameOf(tag) != UNNAMED;
    }

    private boolean hasLayer(int image, int layer) {
        return isMade(image) && layer >= 0 && layer < images.get(image).layerNumbers.length;
    }

    private boolean hasEntry(int image, int layer, int entry) {
        return hasLayer(image, layer) && entry >= 0 && entry < layerOf(image, layer).size();
    }

    /** Only behind hasLayer. */
    private Layer layerOf(int image, int layer) {
        return differentLayers.get(images.get(image).layerNumbers[layer]);
    }

    /** A draft equal to the parent's tree is the parent itself: no image has its parent's tree. */
    private int answerDraftOn(int parent) {
        if (draft.sameAs(images.get(parent).tree)) {
            return answerHeld(parent);
        }
        for (int i = 0; i < images.size(); i++) {
            if (images.get(i).parent == parent && draft.sameAs(images.get(i).tree)) {
                return answerHeld(i);
            }
        }
        if (images.size() >= MOST_IMAGES) {
            return FULL;
        }
        images.add(newImageOn(parent));
        return answerHeld(images.size() - 1);
    }

    private int answerHeld(int image) {
        if (builderStore.holds(image)) {
            answeredAgain++;
        }
        builderStore.hold(image);
        return image;
    }

    private Image newImageOn(int parent) {
        Image base = images.get(parent);
        Tree tree = new Tree();
        tree.become(draft);
        int below = base.layerNumbers.length;
        int[] layerNumbers = Arrays.copyOf(base.layerNumbers, below + 1);
        layerNumbers[below] = numberOfLayer(new Layer(base.tree, tree));
        return new Image(parent, tree, layerNumbers);
    }

    private int numberOfLayer(Layer layer) {
        for (int i = 0; i < differentLayers.size(); i++) {
            if (differentLayers.get(i).sameAs(layer)) {
                return i;
            }
        }
        differentLayers.add(layer);
        return differentLayers.size() - 1;
    }

    private int layersIn(Store store) {
        seeLayersOf(store);
        int seen = 0;
        for (int i = 0; i < differentLayers.size(); i++) {
            if (layerSeen[i]) {
                seen++;
            }
        }
        return seen;
    }

    private int entriesIn(Store store) {
        seeLayersOf(store);
        int sum = 0;
        for (int i = 0; i < differentLayers.size(); i++) {
            if (layerSeen[i]) {
                sum += differentLayers.get(i).size();
            }
        }
        return sum;
    }

    private void seeLayersOf(Store store) {
        for (int i = 0; i < layerSeen.length; i++) {
            layerSeen[i] = false;
        }
        for (int i = 0; i < images.size(); i++) {
            if (store.holds(i)) {
                for (int number : images.get(i).layerNumbers) {
                    layerSeen[number] = true;
                }
            }
        }
    }

    /** What the number of a path tells: three names to the base five, so all below a path lies right behind it. */
    private static final class Path {
        static boolean inRange(int path) {
            return path >= 0 && path < PATHS;
        }

        static boolean isLegal(int path) {
            boolean hasFirst = path >= 25 && path < PATHS;
            boolean hasSecond = path / 5 % 5 != 0;
            boolean hasThird = path % 5 != 0;
            return hasFirst && (hasSecond || !hasThird);
        }

        static int names(int path) {
            if (path == 0) {
                return 0;
            }
            if (path % 25 == 0) {
                return 1;
            }
            return path % 5 == 0 ? 2 : 3;
        }

        static int parent(int path) {
            switch (names(path)) {
                case 2:
                    return path - path % 25;
                case 3:
                    return path - path % 5;
                default:
                    return 0;
            }
        }

        /** The first number behind a legal path and all below it. */
        static int end(int path) {
            switch (names(path)) {
                case 1:
                    return path + 25;
                case 2:
                    return path + 5;
                default:
                    return path + 1;
            }
        }

        static int namesWhenPut(int path, int from, int to) {
            return names(path) - names(from) + names(to);
        }

        /** Where a path at or below from comes to lie when from is put at to; only for what keeps to three names. */
        static int whenPut(int path, int from, int to) {
            int offset = path - from;
            int deeper = names(to) - names(from);
            for (int i = 0; i < deeper; i++) {
                offset = offset / 5;
            }
            for (int i = deeper; i < 0; i++) {
                offset = offset * 5;
            }
            return to + offset;
        }
    }

    /** Paths that are not legal stay absent for ever, so that looking needs no case for them. */
    private static final class Tree {
        private final long[] marks;

        Tree() {
            marks = new long[PATHS];
            Arrays.fill(marks, ABSENT);
            marks[0] = DIRECTORY;
        }

        long at(int path) {
            return marks[path];
        }

        void become(Tree other) {
            System.arraycopy(other.marks, 0, marks, 0, PATHS);
        }

        boolean sameAs(Tree other) {
            for (int i = 0; i < PATHS; i++) {
                if (marks[i] != other.marks[i]) {
                    return false;
                }
            }
            return true;
        }

        int presentAfter(int path) {
            int found = path + 1;
            while (found < PATHS && marks[found] == ABSENT) {
                found++;
            }
            return found;
        }

        /** Whether the step was made; if not, the tree is as before. */
        boolean change(int step, int path, int argument) {
            if (!Path.isLegal(path)) {
                return false;
            }
            switch (step) {
                case WRITE:
                    return writeFile(path, argument);
                case MAKE:
                    return makeDirectory(path);
                case REMOVE:
                    return removeAll(path);
                case COPY:
                    return copyAll(path, argument);
                case MOVE:
                    return copyAll(path, argument) && removeAll(path);
                default:
                    return false;
            }
        }

        private boolean writeFile(int path, int content) {
            if (marks[path] == DIRECTORY || liesBelowFile(path)) {
                return false;
            }
            makeAllAbove(path);
            marks[path] = content;
            return true;
        }

        private boolean makeDirectory(int path) {
            if (isFile(path) || liesBelowFile(path)) {
                return false;
            }
            makeAllAbove(path);
            marks[path] = DIRECTORY;
            return true;
        }

        private boolean removeAll(int path) {
            if (marks[path] == ABSENT) {
                return false;
            }
            int end = Path.end(path);
            for (int i = path; i < end; i++) {
                marks[i] = ABSENT;
            }
            return true;
        }

        /** The two ranges never meet: nothing is below an absent target, and a target below the source is refused. */
        private boolean copyAll(int from, int to) {
            if (!mayCopy(from, to)) {
                return false;
            }
            int end = Path.end(from);
            for (int i = from; i < end; i++) {
                if (marks[i] != ABSENT) {
                    marks[Path.whenPut(i, from, to)] = marks[i];
                }
            }
            return true;
        }

        private boolean mayCopy(int from, int to) {
            if (!Path.isLegal(to) || marks[from] == ABSENT || marks[to] != ABSENT) {
                return false;
            }
            boolean atOrBelow = to >= from && to < Path.end(from);
            return !atOrBelow && marks[Path.parent(to)] == DIRECTORY && fitsAt(from, to);
        }

        private boolean fitsAt(int from, int to) {
            int end = Path.end(from);
            for (int i = from; i < end; i++) {
                if (marks[i] != ABSENT && Path.namesWhenPut(i, from, to) > MOST_NAMES) {
                    return false;
                }
            }
            return true;
        }

        private boolean isFile(int path) {
            return marks[path] != ABSENT && marks[path] != DIRECTORY;
        }

        private boolean liesBelowFile(int path) {
            int above = Path.parent(path);
            return isFile(above) || isFile(Path.parent(above));
        }

        /** No path has more than two others above it but the root, which is always there. */
        private void makeAllAbove(int path) {
            int above = Path.parent(path);
            marks[above] = DIRECTORY;
            marks[Path.parent(above)] = DIRECTORY;
        }
    }

    private static final class Layer {
        private final int[] paths;
        private final long[] marks;

        Layer(Tree first, Tree second) {
            int size = 0;
            for (int i = 1; i < PATHS; i++) {
                if (changeAt(i, first, second) != NONE) {
                    size++;
                }
            }
            paths = new int[size];
            marks = new long[size];
            int filled = 0;
            for (int i = 1; i < PATHS && filled < size; i++) {
                long mark = changeAt(i, first, second);
                if (mark != NONE) {
                    paths[filled] = i;
                    marks[filled] = mark;
                    filled++;
                }
            }
        }

        private static long changeAt(int path, Tree first, Tree second) {
            long mark = second.at(path);
            if (mark == first.at(path)) {
                return NONE;
            }
            if (mark != ABSENT) {
                return mark;
            }
            return second.at(Path.parent(path)) == DIRECTORY ? GONE : NONE;
        }

        int size() {
            return paths.length;
        }

        boolean sameAs(Layer other) {
            if (paths.length != other.paths.length) {
                return false;
            }
            for (int i = 0; i < paths.length; i++) {
                if (paths[i] != other.paths[i] || marks[i] != other.marks[i]) {
                    return false;
                }
            }
            return true;
        }
    }

    private static final class Image {
        private final int parent;
        private final Tree tree;
        /** The lowest first; two layers are the same if their numbers are. */
        private final int[] layerNumbers;

        Image(int parent, Tree tree, int[] layerNumbers) {
            this.parent = parent;
            this.tree = tree;
            this.layerNumbers = layerNumbers;
        }

        boolean hasLayerNumber(int number) {
            for (int own : layerNumbers) {
                if (own == number) {
                    return true;
                }
            }
            return false;
        }
    }

    private static final class Store {
        private final boolean[] holding;
        private final int[] names;

        Store() {
            holding = new boolean[MOST_IMAGES];
            holding[BARE_IMAGE] = true;
            names = new int[TAGS];
            Arrays.fill(names, UNNAMED);
        }

        boolean holds(int image) {
            return image >= 0 && image < MOST_IMAGES && holding[image];
        }

        void hold(int image) {
            if (image >= 0 && image < MOST_IMAGES) {
                holding[image] = true;
            }
        }

        int nameOf(int tag) {
            return names[tag];
        }

        void giveName(int tag, int image) {
            names[tag] = image;
        }

        void holdOnlyNamed() {
            for (int i = 0; i < MOST_IMAGES; i++) {
                holding[i] = false;
            }
            holding[BARE_IMAGE] = true;
            for (int image : names) {
                hold(image);
            }
        }
    }
}
