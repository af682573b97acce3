import java.util.ArrayList;
import java.util.HashMap;
import java.util.List;
import java.util.Map;
import java.util.NoSuchElementException;
import java.util.TreeMap;
import java.util.TreeSet;

/**
 * The document once more, built another way than the program: the cells hold real contents, the
 * tree consists of the nodes in them, and whoever reads follows the pointers from cell to cell. It
 * stops the test when a stale content would be taken for a right one.
 */
final class Model {
    private static final Object SPOILT = new Object();

    private record Place(int mirror, int cell) {
    }

    private record Pointer(List<Place> places, int checksum, int birth, Object content) {
    }

    private static final class Leaf {
        final int value;

        Leaf(int value) {
            this.value = value;
        }
    }

    private static final class Node {
        final Pointer[] pointers;

        Node(Pointer[] pointers) {
            this.pointers = pointers;
        }

        int checksum() {
            long sum = 1;
            for (Pointer each : pointers) {
                sum = sum * 131 + (each == null ? 0 : each.checksum + each.birth);
                sum %= 65521;
            }
            return (int) sum;
        }

        boolean isEmpty() {
            for (Pointer each : pointers) {
                if (each != null) {
                    return false;
                }
            }
            return true;
        }
    }

    private static final class NoRoom extends Exception {
        private static final long serialVersionUID = 1L;
    }

    private final Object[][][] content = new Object[3][2][40];
    private final int[] offlineSide = {-1, -1, -1};
    private final int[] outage = new int[3];
    private final int[] copies = {1, 1, 1, 1};
    private final TreeMap<Integer, TreeMap<Integer, Integer>> changes = new TreeMap<>();
    private Pointer root = null;
    private int group = 1;
    private int healed = 0;

    private static void check(boolean right) {
        if (!right) {
            throw new IllegalArgumentException();
        }
    }

    private static void checkBlock(int file, int block) {
        check(file >= 0 && file <= 3 && block >= 0 && block <= 11);
    }

    private static void checkSide(int mirror, int side) {
        check(mirror >= 0 && mirror <= 2 && (side == 0 || side == 1));
    }

    private static void checkCell(int mirror, int side, int cell) {
        checkSide(mirror, side);
        check(cell >= 0 && cell <= 39);
    }

    // The tree as it was synced last, whatever the cells hold.

    private Node rootNode() {
        return root == null ? null : (Node) root.content;
    }

    private Pointer filePointer(int file) {
        return root == null ? null : rootNode().pointers[file];
    }

    private Pointer blockPointer(int file, int block) {
        Pointer node = filePointer(file);
        return node == null ? null : ((Node) node.content).pointers[block];
    }

    private int synced(int file, int block) {
        Pointer pointer = blockPointer(file, block);
        return pointer == null ? 0 : ((Leaf) pointer.content).value;
    }

    private Integer change(int file, int block) {
        return changes.containsKey(file) ? changes.get(file).get(block) : null;
    }

    private int value(int file, int block) {
        Integer change = change(file, block);
        return change == null ? synced(file, block) : change;
    }

    private void put(int file, int block, int value) {
        changes.computeIfAbsent(file, f -> new TreeMap<>()).put(block, value);
    }

    List<int[]> usedPlaces() {
        List<int[]> all = new ArrayList<>();
        List<Pointer> open = new ArrayList<>();
        if (root != null) {
            open.add(root);
        }
        while (!open.isEmpty()) {
            Pointer pointer = open.remove(0);
            for (Place each : pointer.places) {
                all.add(new int[] {each.mirror, each.cell});
            }
            if (pointer.content instanceof Node node) {
                for (Pointer each : node.pointers) {
                    if (each != null) {
                        open.add(each);
                    }
                }
            }
        }
        return all;
    }

    private boolean isUsed(int mirror, int cell) {
        for (int[] each : usedPlaces()) {
            if (each[0] == mirror && each[1] == cell) {
                return true;
            }
        }
        return false;
    }

    // ---- files

    public int write(int file, int block, int value) {
        checkBlock(file, block);
        check(value >= 1 && value <= 9999);
        int before = value(file, block);
        put(file, block, value);
        return before;
    }

    public int punch(int file, int from, int to) {
        checkBlock(file, from);
        checkBlock(file, to);
        check(from <= to);
        int count = 0;
        for (int block = from; block <= to; block++) {
            count += value(file, block) > 0 ? 1 : 0;
            put(file, block, 0);
        }
        return count;
    }

    public int setCopies(int file, int count) {
        checkBlock(file, 0);
        check(count == 1 || count == 2);
        int before = copies[file];
        copies[file] = count;
        return before;
    }

    /** Fetches what a pointer leads to, and adds the bad cells before it; null if all are bad. */
    private Object fetch(Pointer pointer, List<int[]> bad) {
        for (Place place : pointer.places) {
            for (int side = 0; side < 2; side++) {
                if (offlineSide[place.mirror] == side) {
                    continue;
                }
                Object found = content[place.mirror][side][place.cell];
                if (found != SPOILT) {
                    if (found != pointer.content) {
                        throw new AssertionError("a stale cell was taken for a right one");
                    }
                    return found;
                }
                bad.add(new int[] {place.mirror, side, place.cell});
            }
        }
        return null;
    }

    private boolean readable(Pointer pointer) {
        return fetch(pointer, new ArrayList<>()) != null;
    }

    public int read(int file, int block) {
        checkBlock(file, block);
        if (change(file, block) != null) {
            return change(file, block);
        }
        Map<int[], Object> cure = new HashMap<>();
        Object last = null;
        Pointer next = root;
        int depth = 0;
        while (next != null) {
            List<int[]> bad = new ArrayList<>();
            last = fetch(next, bad);
            if (last == null) {
                throw new IllegalStateException();
            }
            for (int[] each : bad) {
                cure.put(each, last);
            }
            depth++;
            next = depth == 3 ? null : ((Node) last).pointers[depth == 1 ? file : block];
        }
        for (Map.Entry<int[], Object> each : cure.entrySet()) {
            int[] at = each.getKey();
            content[at[0]][at[1]][at[2]] = each.getValue();
            healed++;
        }
        return depth == 3 ? ((Leaf) last).value : 0;
    }

    public int nextData(int file, int block) {
        checkBlock(file, block);
        for (int each = block; each < 12; each++) {
            if (value(file, each) != 0) {
                return each;
            }
        }
        throw new NoSuchElementException();
    }

    public int nextHole(int file, int block) {
        checkBlock(file, block);
        for (int each = block; each < 12; each++) {
            if (value(file, each) == 0) {
                return each;
            }
        }
        return 12;
    }

    // ---- groups

    /** What a sync is about to write: it takes free cells and remembers what goes into them. */
    private final class Writing {
        final List<TreeSet<Integer>> freeCells = new ArrayList<>();
        final List<Pointer> written = new ArrayList<>();

        Writing() {
            for (int mirror = 0; mirror < 3; mirror++) {
                TreeSet<Integer> cells = new TreeSet<>();
                for (int cell = 0; cell < 40; cell++) {
                    cells.add(cell);
                }
                freeCells.add(cells);
            }
            for (int[] each : usedPlaces()) {
                freeCells.get(each[0]).remove(each[1]);
            }
        }

        private Place take(Place beside) throws NoRoom {
            List<Integer> order = new ArrayList<>(List.of(0, 1, 2));
            if (beside != null) {
                order.remove(Integer.valueOf(beside.mirror));
            }
            order.sort((a, b) -> freeCells.get(b).size() - freeCells.get(a).size());
            Integer cell = freeCells.get(order.get(0)).pollFirst();
            if (cell == null) {
                throw new NoRoom();
            }
            return new Place(order.get(0), cell);
        }

        Pointer write(Object what, int checksum, int count) throws NoRoom {
            List<Place> places = new ArrayList<>();
            places.add(take(null));
            if (count == 2) {
                places.add(take(places.get(0)));
            }
            Pointer pointer = new Pointer(places, checksum, group, what);
            written.add(pointer);
            return pointer;
        }
    }

    private Pointer writeFile(Writing writing, int file) throws NoRoom {
        Pointer[] pointers = new Pointer[12];
        for (int block = 0; block < 12; block++) {
            Integer change = change(file, block);
            if (change == null) {
                pointers[block] = blockPointer(file, block);
            } else if (change != 0) {
                int sum = (31 * change + 17) % 65521;
                pointers[block] = writing.write(new Leaf(change), sum, copies[file]);
            }
        }
        Node node = new Node(pointers);
        return node.isEmpty() ? null : writing.write(node, node.checksum(), 2);
    }

    public int sync() {
        Writing writing = new Writing();
        Pointer newRoot = root;
        try {
            if (!changes.isEmpty()) {
                Pointer[] files = new Pointer[4];
                for (int file = 0; file < 4; file++) {
                    files[file] = changes.containsKey(file)
                            ? writeFile(writing, file) : filePointer(file);
                }
                Node node = new Node(files);
                newRoot = node.isEmpty() ? null : writing.write(node, node.checksum(), 2);
            }
        } catch (NoRoom e) {
            throw new IllegalStateException();
        }
        int count = 0;
        for (Pointer pointer : writing.written) {
            for (Place place : pointer.places) {
                for (int side = 0; side < 2; side++) {
                    if (offlineSide[place.mirror] != side) {
                        content[place.mirror][side][place.cell] = pointer.content;
                    }
                }
                count++;
            }
        }
        root = newRoot;
        changes.clear();
        group++;
        return count;
    }

    public int abandon() {
        int count = buffered();
        changes.clear();
        return count;
    }

    public int group() {
        return group;
    }

    public int buffered() {
        int count = 0;
        for (TreeMap<Integer, Integer> each : changes.values()) {
            count += each.size();
        }
        return count;
    }

    // ---- sides and cells

    public void offline(int mirror, int side) {
        checkSide(mirror, side);
        if (offlineSide[mirror] != -1) {
            throw new IllegalStateException();
        }
        offlineSide[mirror] = side;
        outage[mirror] = group - 1;
    }

    public int online(int mirror, int side) {
        checkSide(mirror, side);
        if (offlineSide[mirror] != side) {
            throw new IllegalStateException();
        }
        int count = resilver(root, mirror, side);
        offlineSide[mirror] = -1;
        return count;
    }

    private int resilver(Pointer pointer, int mirror, int side) {
        if (pointer == null || pointer.birth <= outage[mirror]) {
            return 0;
        }
        int count = 0;
        for (Place place : pointer.places) {
            if (place.mirror == mirror) {
                boolean good = content[mirror][1 - side][place.cell] != SPOILT;
                for (Place other : pointer.places) {
                    for (int each = 0; each < 2 && other.mirror != mirror; each++) {
                        good |= offlineSide[other.mirror] != each
                                && content[other.mirror][each][other.cell] != SPOILT;
                    }
                }
                content[mirror][side][place.cell] = good ? pointer.content : SPOILT;
                count++;
            }
        }
        if (pointer.content instanceof Node node) {
            for (Pointer each : node.pointers) {
                count += resilver(each, mirror, side);
            }
        }
        return count;
    }

    public boolean spoil(int mirror, int side, int cell) {
        checkCell(mirror, side, cell);
        if (offlineSide[mirror] == side || !isUsed(mirror, cell)) {
            throw new IllegalStateException();
        }
        boolean before = content[mirror][side][cell] == SPOILT;
        content[mirror][side][cell] = SPOILT;
        return !before;
    }

    public boolean isSpoilt(int mirror, int side, int cell) {
        checkCell(mirror, side, cell);
        if (offlineSide[mirror] == side) {
            throw new IllegalStateException();
        }
        return isUsed(mirror, cell) && content[mirror][side][cell] == SPOILT;
    }

    public boolean isFree(int mirror, int cell) {
        checkCell(mirror, 0, cell);
        return !isUsed(mirror, cell);
    }

    public int free(int mirror) {
        checkSide(mirror, 0);
        int count = 40;
        for (int[] each : usedPlaces()) {
            count -= each[0] == mirror ? 1 : 0;
        }
        return count;
    }

    public int scrub() {
        int count = scrub(root);
        healed += count;
        return count;
    }

    private int scrub(Pointer pointer) {
        if (pointer == null || !readable(pointer)) {
            return 0;
        }
        int count = 0;
        for (Place place : pointer.places) {
            for (int side = 0; side < 2; side++) {
                Object[] cells = content[place.mirror][side];
                if (offlineSide[place.mirror] != side && cells[place.cell] == SPOILT) {
                    cells[place.cell] = pointer.content;
                    count++;
                }
            }
        }
        if (pointer.content instanceof Node node) {
            for (Pointer each : node.pointers) {
                count += scrub(each);
            }
        }
        return count;
    }

    public int healed() {
        return healed;
    }

    public int lost() {
        return lostBelow(root, true);
    }

    private int lostBelow(Pointer pointer, boolean reached) {
        if (pointer == null) {
            return 0;
        }
        boolean good = reached && readable(pointer);
        if (pointer.content instanceof Node node) {
            int count = 0;
            for (Pointer each : node.pointers) {
                count += lostBelow(each, good);
            }
            return count;
        }
        return good ? 0 : 1;
    }

    // ---- pointers, as they were synced last

    private static int placeOf(Pointer pointer, int place) {
        if (pointer == null || place < 0 || place >= pointer.places.size()) {
            throw new NoSuchElementException();
        }
        return 100 * pointer.places.get(place).mirror + pointer.places.get(place).cell;
    }

    public int places(int file, int block) {
        checkBlock(file, block);
        Pointer pointer = blockPointer(file, block);
        return pointer == null ? 0 : pointer.places.size();
    }

    public int place(int file, int block, int place) {
        checkBlock(file, block);
        return placeOf(blockPointer(file, block), place);
    }

    public int nodePlace(int file, int place) {
        checkBlock(file, 0);
        return placeOf(filePointer(file), place);
    }

    public int rootPlace(int place) {
        return placeOf(root, place);
    }

    public int birth(int file, int block) {
        checkBlock(file, block);
        Pointer pointer = blockPointer(file, block);
        return pointer == null ? 0 : pointer.birth;
    }

    public int checksum(int file) {
        checkBlock(file, 0);
        Pointer pointer = filePointer(file);
        return pointer == null ? 0 : pointer.checksum;
    }

    public int rootChecksum() {
        return root == null ? 0 : root.checksum;
    }
}
