import java.util.ArrayList;
import java.util.HashMap;
import java.util.HashSet;
import java.util.List;
import java.util.Map;
import java.util.Random;
import java.util.Set;
import java.util.TreeMap;
import java.util.TreeSet;

/**
 * Long runs of drawn calls, each answer held against a second, slow telling of the document.
 * The seed is fixed, so every run of the test makes the same calls.
 */
public final class ModelTest {
    private static final int RUNS = 1500;
    private static final int CALLS = 512;

    private static final long ABSENT = 10000000000L;
    private static final long DIRECTORY = 10000000001L;
    private static final long GONE = 10000000002L;
    private static final long NONE = 10000000003L;

    public static void main(String[] args) {
        int wrong = 0;
        Set<String> seen = new HashSet<>();
        for (int run = 0; run < RUNS; run++) {
            if (!runAgrees(run, seen)) {
                wrong++;
            }
        }
        for (String needed : new String[] {"FULL", "send of some", "collect of some", "held anew", "COPY", "MOVE"}) {
            if (!seen.contains(needed)) {
                wrong++;
                System.out.println("no run came to: " + needed);
            }
        }
        System.out.println(wrong == 0 ? RUNS + " runs agree with the model" : wrong + " runs are wrong");
        if (wrong != 0) {
            System.exit(1);
        }
    }

    private static boolean runAgrees(int run, Set<String> seen) {
        Draw draw = new Draw(run);
        ImageStores object = new ImageStores();
        Model model = new Model();
        List<String> calls = new ArrayList<>();
        for (int i = 0; i < CALLS; i++) {
            int[] call = draw.call(model.images.size());
            int heldBefore = model.held.get(0).size();
            int madeBefore = model.images.size();
            long want = model.answer(call);
            long got = answer(object, call);
            calls.add(Draw.NAMES[call[0]] + "(" + call[1] + ", " + call[2] + ", " + call[3] + ", " + call[4] + ")");
            if (got != want) {
                System.out.println("run " + run + ", call " + i + ": answered " + got + ", due is " + want);
                System.out.println(calls);
                return false;
            }
            note(seen, call, want, model.images.size() == madeBefore && model.held.get(0).size() > heldBefore);
        }
        return true;
    }

    private static void note(Set<String> seen, int[] call, long answer, boolean heldMore) {
        boolean built = call[0] == 0 && answer > 0;
        if (answer == -2) {
            seen.add("FULL");
        } else if (call[0] <= 1 && heldMore) {
            seen.add("held anew");
        } else if (call[0] == 4 && answer > 1) {
            seen.add("send of some");
        } else if (call[0] == 5 && answer > 1) {
            seen.add("collect of some");
        } else if (built && call[2] >= 3) {
            seen.add(call[2] == 3 ? "COPY" : "MOVE");
        }
    }

    private static long answer(ImageStores x, int[] c) {
        switch (c[0]) {
            case 0: return x.build(c[1], c[2], c[3], c[4]);
            case 1: return x.flatten(c[1]);
            case 2: return x.tag(c[1], c[2], c[3]);
            case 3: return x.untag(c[1], c[2]);
            case 4: return x.send(c[1], c[2]);
            case 5: return x.collect(c[1]);
            case 6: return x.named(c[1], c[2]);
            case 7: return x.held(c[1], c[2]) ? 1 : 0;
            case 8: return x.look(c[1], c[2]);
            case 9: return x.next(c[1], c[2]);
            case 10: return x.layers(c[1]);
            case 11: return x.entries(c[1], c[2]);
            case 12: return x.entryPath(c[1], c[2], c[3]);
            case 13: return x.entryMark(c[1], c[2], c[3]);
            case 14: return x.common(c[1], c[2]);
            case 15: return x.shared(c[1], c[2]);
            default: return x.count(c[1]);
        }
    }

    /** Draws calls that mostly make sense, over few names and contents, so that equal things come about. */
    private static final class Draw {
        static final String[] NAMES = {"build", "flatten", "tag", "untag", "send", "collect", "named", "held", "look",
            "next", "layers", "entries", "entryPath", "entryMark", "common", "shared", "count"};
        private static final int[] EDGES = {Integer.MIN_VALUE, -2, -1, 2, 5, 6, 39, 40, 41, 124, 125, Integer.MAX_VALUE};
        private final Random random;
        private final int names;
        private final int changesInTen;

        Draw(int seed) {
            random = new Random(seed);
            names = 1 + random.nextInt(4);
            changesInTen = 2 + random.nextInt(7);
        }

        int[] call(int made) {
            int kind = random.nextInt(10) < changesInTen ? change() : 6 + random.nextInt(11);
            int[] call = {kind, 0, 0, 0, 0};
            int image = random.nextInt(4) == 0 ? random.nextInt(made) : made - 1 - random.nextInt(Math.min(made, 5));
            if (kind == 0) {
                int step = random.nextInt(5);
                fill(call, image, step, path(), step >= 3 ? path() : content());
            } else if (kind == 2) {
                fill(call, random.nextInt(2), random.nextInt(6), image, 0);
            } else if (kind >= 3 && kind <= 7) {
                fill(call, random.nextInt(2), kind == 7 ? image : random.nextInt(6), 0, 0);
            } else if (kind == 8 || kind == 9) {
                fill(call, image, random.nextInt(3) == 0 ? random.nextInt(125) : path(), 0, 0);
            } else if (kind == 14 || kind == 15) {
                fill(call, image, random.nextInt(made), 0, 0);
            } else if (kind == 16) {
                fill(call, random.nextInt(6), 0, 0, 0);
            } else {
                fill(call, image, random.nextInt(6), random.nextInt(4), 0);
            }
            if (random.nextInt(20) == 0) {
                call[1 + random.nextInt(4)] = EDGES[random.nextInt(EDGES.length)];
            }
            return call;
        }

        private int change() {
            int drawn = random.nextInt(20);
            if (drawn < 12) {
                return 0;
            }
            return drawn < 18 ? 1 + random.nextInt(4) : random.nextInt(3) == 0 ? 5 : 2;
        }

        private static void fill(int[] call, int a, int b, int c, int d) {
            call[1] = a;
            call[2] = b;
            call[3] = c;
            call[4] = d;
        }

        private int path() {
            int first = 1 + random.nextInt(names);
            int second = random.nextInt(3) == 0 ? 0 : 1 + random.nextInt(names);
            int third = second == 0 && random.nextInt(20) != 0 ? 0 : random.nextInt(names + 1);
            return 25 * first + 5 * second + third;
        }

        private int content() {
            int drawn = random.nextInt(12);
            return drawn == 0 ? Integer.MIN_VALUE : drawn == 1 ? Integer.MAX_VALUE : drawn % 3 - 1;
        }
    }

    private static final class Picture {
        int parent;
        TreeMap<String, Long> tree = new TreeMap<>();
        List<Map<Integer, Long>> layers = new ArrayList<>();
    }

    /** Paths are texts of names, "" the root, and a tree holds just what is not absent. */
    private static final class Model {
        final List<Picture> images = new ArrayList<>();
        final List<Set<Integer>> held = new ArrayList<>();
        final List<Map<Integer, Integer>> tags = new ArrayList<>();
        int again = 0;

        Model() {
            Picture bare = new Picture();
            bare.parent = -1;
            images.add(bare);
            for (int store = 0; store < 2; store++) {
                held.add(new TreeSet<>(Set.of(0)));
                tags.add(new HashMap<>());
            }
        }

        long answer(int[] c) {
            switch (c[0]) {
                case 0: return build(c[1], c[2], c[3], c[4]);
                case 1: return held.get(0).contains(c[1]) ? imageOf(0, images.get(c[1]).tree) : -1;
                case 2: return tag(c[1], c[2], c[3]);
                case 3: return hasName(c[1], c[2]) ? tags.get(c[1]).remove(c[2]) : -1;
                case 4: return send(c[1], c[2]);
                case 5: return collect(c[1]);
                case 6: return isStore(c[1]) && isTag(c[2]) ? tags.get(c[1]).getOrDefault(c[2], 40) : -1;
                case 7: return isStore(c[1]) && held.get(c[1]).contains(c[2]) ? 1 : 0;
                case 8: return look(c[1], c[2]);
                case 9: return next(c[1], c[2]);
                case 10: return isMade(c[1]) ? images.get(c[1]).layers.size() : -1;
                case 11: return layer(c[1], c[2]) == null ? -1 : layer(c[1], c[2]).size();
                case 12: return entry(c[1], c[2], c[3]) == null ? -1 : entry(c[1], c[2], c[3]).getKey();
                case 13: return entry(c[1], c[2], c[3]) == null ? NONE : entry(c[1], c[2], c[3]).getValue();
                case 14: return common(c[1], c[2]);
                case 15: return shared(c[1], c[2]);
                default: return count(c[1]);
            }
        }

        boolean isStore(int store) {
            return store == 0 || store == 1;
        }

        boolean isTag(int tag) {
            return 0 <= tag && tag <= 5;
        }

        boolean isMade(int image) {
            return 0 <= image && image < images.size();
        }

        boolean hasName(int store, int tag) {
            return isStore(store) && tags.get(store).containsKey(tag);
        }

        /** The names of a path, or null if it is not legal. */
        static String names(int path) {
            if (path < 1 || path > 124) {
                return null;
            }
            String digits = "" + path / 25 + path / 5 % 5 + path % 5;
            return digits.matches("[1-4]([1-4]?)0*|[1-4]{3}") ? digits.replace("0", "") : null;
        }

        static int number(String names) {
            return Integer.parseInt((names + "000").substring(0, 3), 5);
        }

        static String parent(String names) {
            return names.substring(0, names.length() - 1);
        }

        static boolean isDirectory(Map<String, Long> tree, String names) {
            return names.isEmpty() || tree.getOrDefault(names, ABSENT) == DIRECTORY;
        }

        long build(int image, int step, int path, int argument) {
            if (!held.get(0).contains(image) || names(path) == null) {
                return -1;
            }
            TreeMap<String, Long> tree = new TreeMap<>(images.get(image).tree);
            boolean done;
            switch (step) {
                case 0: done = put(tree, names(path), argument); break;
                case 1: done = put(tree, names(path), DIRECTORY); break;
                case 2: done = remove(tree, names(path)); break;
                case 3: done = copy(tree, names(path), names(argument)); break;
                case 4: done = copy(tree, names(path), names(argument)) && remove(tree, names(path)); break;
                default: done = false;
            }
            return done ? imageOf(image, tree) : -1;
        }

        static boolean put(TreeMap<String, Long> tree, String names, long mark) {
            for (int length = 1; length < names.length(); length++) {
                String above = names.substring(0, length);
                if (tree.containsKey(above) && !isDirectory(tree, above)) {
                    return false;
                }
            }
            if (tree.containsKey(names) && isDirectory(tree, names) != (mark == DIRECTORY)) {
                return false;
            }
            for (int length = 1; length < names.length(); length++) {
                tree.put(names.substring(0, length), DIRECTORY);
            }
            tree.put(names, mark);
            return true;
        }

        static boolean remove(TreeMap<String, Long> tree, String names) {
            return tree.keySet().removeIf(other -> other.startsWith(names));
        }

        static boolean copy(TreeMap<String, Long> tree, String from, String to) {
            if (to == null || !tree.containsKey(from) || tree.containsKey(to) || to.startsWith(from)) {
                return false;
            }
            if (!isDirectory(tree, parent(to))) {
                return false;
            }
            TreeMap<String, Long> copies = new TreeMap<>();
            for (Map.Entry<String, Long> present : tree.entrySet()) {
                if (present.getKey().startsWith(from)) {
                    copies.put(to + present.getKey().substring(from.length()), present.getValue());
                }
            }
            if (copies.keySet().stream().anyMatch(names -> names.length() > 3)) {
                return false;
            }
            tree.putAll(copies);
            return true;
        }

        long imageOf(int parent, TreeMap<String, Long> tree) {
            int found = images.get(parent).tree.equals(tree) ? parent : -1;
            for (int i = 0; i < images.size(); i++) {
                if (images.get(i).parent == parent && images.get(i).tree.equals(tree)) {
                    found = i;
                }
            }
            if (found < 0 && images.size() == 40) {
                return -2;
            }
            if (found < 0) {
                found = images.size();
                images.add(picture(parent, tree));
            }
            again += held.get(0).add(found) ? 0 : 1;
            return found;
        }

        Picture picture(int parent, TreeMap<String, Long> tree) {
            Picture made = new Picture();
            made.parent = parent;
            made.tree.putAll(tree);
            made.layers.addAll(images.get(parent).layers);
            made.layers.add(layerBetween(images.get(parent).tree, tree));
            return made;
        }

        static Map<Integer, Long> layerBetween(Map<String, Long> first, Map<String, Long> second) {
            TreeMap<Integer, Long> layer = new TreeMap<>();
            second.forEach((names, mark) -> {
                if (!mark.equals(first.get(names))) {
                    layer.put(number(names), mark);
                }
            });
            for (String names : first.keySet()) {
                if (!second.containsKey(names) && isDirectory(second, parent(names))) {
                    layer.put(number(names), GONE);
                }
            }
            return layer;
        }

        long tag(int store, int tag, int image) {
            if (!isStore(store) || !isTag(tag) || !held.get(store).contains(image)) {
                return -1;
            }
            Integer before = tags.get(store).put(tag, image);
            return before == null ? 40 : before;
        }

        Set<Map<Integer, Long>> layersHeld(int store) {
            Set<Map<Integer, Long>> layers = new HashSet<>();
            for (int image : held.get(store)) {
                layers.addAll(images.get(image).layers);
            }
            return layers;
        }

        long send(int store, int tag) {
            if (!hasName(store, tag)) {
                return -1;
            }
            int image = tags.get(store).get(tag);
            Set<Map<Integer, Long>> missing = new HashSet<>(images.get(image).layers);
            missing.removeAll(layersHeld(1 - store));
            held.get(1 - store).add(image);
            tags.get(1 - store).put(tag, image);
            return missing.size();
        }

        long collect(int store) {
            if (!isStore(store)) {
                return -1;
            }
            Set<Map<Integer, Long>> lost = layersHeld(store);
            held.get(store).clear();
            held.get(store).add(0);
            held.get(store).addAll(tags.get(store).values());
            lost.removeAll(layersHeld(store));
            return lost.size();
        }

        long look(int image, int path) {
            if (!isMade(image) || path < 0 || path > 124) {
                return NONE;
            }
            if (path == 0) {
                return DIRECTORY;
            }
            return names(path) == null ? ABSENT : images.get(image).tree.getOrDefault(names(path), ABSENT);
        }

        long next(int image, int path) {
            if (!isMade(image) || path < 0 || path > 124) {
                return -1;
            }
            return images.get(image).tree.keySet().stream().mapToInt(Model::number).filter(p -> p > path).min().orElse(125);
        }

        Map<Integer, Long> layer(int image, int layer) {
            boolean there = isMade(image) && layer >= 0 && layer < images.get(image).layers.size();
            return there ? images.get(image).layers.get(layer) : null;
        }

        Map.Entry<Integer, Long> entry(int image, int layer, int entry) {
            Map<Integer, Long> found = layer(image, layer);
            return found == null || entry < 0 ? null : found.entrySet().stream().skip(entry).findFirst().orElse(null);
        }

        long common(int a, int b) {
            if (!isMade(a) || !isMade(b)) {
                return -1;
            }
            int same = 0;
            while (layer(a, same) != null && layer(a, same).equals(layer(b, same))) {
                same++;
            }
            return same;
        }

        long shared(int a, int b) {
            if (!isMade(a) || !isMade(b)) {
                return -1;
            }
            return images.get(a).layers.stream().filter(images.get(b).layers::contains).count();
        }

        long count(int what) {
            switch (what) {
                case 0: return images.size();
                case 1: case 2: return layersHeld(what - 1).size();
                case 3: case 4: return layersHeld(what - 3).stream().mapToInt(Map::size).sum();
                case 5: return again;
                default: return -1;
            }
        }
    }
}
