import java.util.Arrays;
import java.util.NoSuchElementException;

/**
 * A storage pool with copy on write, after the manner of ZFS: mirrors over which blocks are spread
 * by free space, a tree of pointers with checksums and birth numbers, additional copies,
 * transaction groups, sparse files with holes, cells that get spoilt and are healed from good
 * copies, and mirrors whose sides go offline and are resilvered by birth.
 */
public final class Zfsmill {
    private static final int FILES = 4;
    private static final int BLOCKS = 12;
    private static final int ALL_BLOCKS = FILES * BLOCKS;
    private static final int MIRRORS = 3;
    private static final int SIDES = 2;
    private static final int CELLS = 40;
    private static final int ALL_CELLS = MIRRORS * CELLS;
    private static final int MOST_COPIES = 2;
    private static final int NODE_COPIES = 2;
    private static final int GREATEST_VALUE = 9999;
    private static final int MODULUS = 65521;

    /** No block holds 0, so that it can stand for a hole among the values. */
    private static final int HOLE = 0;
    private static final int NOTHING = -1;
    private static final int NOWHERE = -1;

    /**
     * Pointers are numbered so that those of one node stand side by side: first the blocks of all
     * files, then the files, then the root.
     */
    private static final int FIRST_FILE_POINTER = ALL_BLOCKS;
    private static final int ROOT = FIRST_FILE_POINTER + FILES;
    private static final int POINTERS = ROOT + 1;

    private final Cells cells;
    private final Tree tree;
    private final OpenGroup open;
    private final Choice choice;
    private final int[] copiesOfFile;
    private int healedSoFar;

    public Zfsmill() {
        cells = new Cells();
        tree = new Tree();
        open = new OpenGroup();
        choice = new Choice();
        copiesOfFile = new int[FILES];
        Arrays.fill(copiesOfFile, 1);
        healedSoFar = 0;
    }

    // ---- files

    public int write(int file, int block, int value) throws IllegalArgumentException {
        if (!isBlockOfFile(file, block) || value < 1 || value > GREATEST_VALUE) {
            throw new IllegalArgumentException("file, block or value is out of range");
        }
        int before = valueNow(file, block);
        open.change(blockPointer(file, block), value);
        return before;
    }

    public int punch(int file, int from, int to) throws IllegalArgumentException {
        if (!isBlockOfFile(file, from) || !isBlock(to) || to < from) {
            throw new IllegalArgumentException("file, from or to is out of range");
        }
        int filled = 0;
        for (int block = from; block <= to; block++) {
            if (valueNow(file, block) != HOLE) {
                filled++;
            }
            open.change(blockPointer(file, block), HOLE);
        }
        return filled;
    }

    public int setCopies(int file, int copies) throws IllegalArgumentException {
        if (!isFile(file) || copies < 1 || copies > MOST_COPIES) {
            throw new IllegalArgumentException("file or copies is out of range");
        }
        int before = copiesOfFile[file];
        copiesOfFile[file] = copies;
        return before;
    }

    public int read(int file, int block) throws IllegalArgumentException, IllegalStateException {
        if (!isBlockOfFile(file, block)) {
            throw new IllegalArgumentException("file or block is out of range");
        }
        int pointer = blockPointer(file, block);
        if (open.holds(pointer)) {
            return open.changeOf(pointer);
        }
        int node = filePointer(file);
        // All three are looked at before any is healed: a read that fails heals nothing at all.
        if (isUnreadable(ROOT) || isUnreadable(node) || isUnreadable(pointer)) {
            throw new IllegalStateException("a pointer cannot be read");
        }
        healedSoFar += healUpToGoodCell(ROOT) + healUpToGoodCell(node) + healUpToGoodCell(pointer);
        return tree.valueOf(pointer);
    }

    public int nextData(int file, int block)
            throws IllegalArgumentException, NoSuchElementException {
        if (!isBlockOfFile(file, block)) {
            throw new IllegalArgumentException("file or block is out of range");
        }
        for (int found = block; found < BLOCKS; found++) {
            if (valueNow(file, found) != HOLE) {
                return found;
            }
        }
        throw new NoSuchElementException("all blocks from this one on are holes");
    }

    public int nextHole(int file, int block) throws IllegalArgumentException {
        if (!isBlockOfFile(file, block)) {
            throw new IllegalArgumentException("file or block is out of range");
        }
        for (int found = block; found < BLOCKS; found++) {
            if (valueNow(file, found) == HOLE) {
                return found;
            }
        }
        return BLOCKS;
    }

    // ---- groups

    public int sync() throws IllegalStateException {
        int written = 0;
        if (open.count() > 0) {
            if (!choosePlaces()) {
                throw new IllegalStateException("there is no free cell for some place");
            }
            written = writeChanges();
            freeWhatIsNotPointedTo();
        }
        open.close();
        return written;
    }

    public int abandon() {
        int dropped = open.count();
        open.dropChanges();
        return dropped;
    }

    public int group() {
        return open.number;
    }

    public int buffered() {
        return open.count();
    }

    // ---- sides and cells

    public void offline(int mirror, int side)
            throws IllegalArgumentException, IllegalStateException {
        if (!isSideOfMirror(mirror, side)) {
            throw new IllegalArgumentException("mirror or side is out of range");
        }
        for (int each = 0; each < SIDES; each++) {
            if (!cells.hasOnline(mirror, each)) {
                throw new IllegalStateException("a side of the mirror is offline");
            }
        }
        cells.takeOffline(mirror, side, open.number - 1);
    }

    public int online(int mirror, int side)
            throws IllegalArgumentException, IllegalStateException {
        if (!isSideOfMirror(mirror, side)) {
            throw new IllegalArgumentException("mirror or side is out of range");
        }
        if (cells.hasOnline(mirror, side)) {
            throw new IllegalStateException("the side is online");
        }
        // While the side still counts as offline, whether a pointer can be read does not hang on
        // what stands on the side itself.
        int copied = resilver(mirror, side);
        cells.bringOnline(mirror, side);
        return copied;
    }

    public boolean spoil(int mirror, int side, int cell)
            throws IllegalArgumentException, IllegalStateException {
        if (!isSideOfMirror(mirror, side) || !isCell(cell)) {
            throw new IllegalArgumentException("mirror, side or cell is out of range");
        }
        int place = placeNumber(mirror, cell);
        if (!cells.hasOnline(mirror, side) || !cells.isUsed(place)) {
            throw new IllegalStateException("the side is offline, or the cell is free");
        }
        boolean wasRight = !cells.hasSpoilt(place, side);
        cells.mark(place, side, true);
        return wasRight;
    }

    public boolean isSpoilt(int mirror, int side, int cell)
            throws IllegalArgumentException, IllegalStateException {
        if (!isSideOfMirror(mirror, side) || !isCell(cell)) {
            throw new IllegalArgumentException("mirror, side or cell is out of range");
        }
        if (!cells.hasOnline(mirror, side)) {
            throw new IllegalStateException("the side is offline");
        }
        return cells.hasSpoilt(placeNumber(mirror, cell), side);
    }

    public boolean isFree(int mirror, int cell) throws IllegalArgumentException {
        if (!isMirror(mirror) || !isCell(cell)) {
            throw new IllegalArgumentException("mirror or cell is out of range");
        }
        return !cells.isUsed(placeNumber(mirror, cell));
    }

    public int free(int mirror) throws IllegalArgumentException {
        if (!isMirror(mirror)) {
            throw new IllegalArgumentException("mirror is out of range");
        }
        return cells.countFree(mirror);
    }

    public int scrub() {
        int count = 0;
        if (canFetch(ROOT)) {
            count += healEveryCell(ROOT);
            for (int file = 0; file < FILES; file++) {
                count += scrubFile(file);
            }
        }
        healedSoFar += count;
        return count;
    }

    public int healed() {
        return healedSoFar;
    }

    public int lost() {
        int count = 0;
        for (int file = 0; file < FILES; file++) {
            boolean wayIsOpen = canFetch(ROOT) && canFetch(filePointer(file));
            for (int block = 0; block < BLOCKS; block++) {
                int pointer = blockPointer(file, block);
                if (!tree.isMissing(pointer) && !(wayIsOpen && canFetch(pointer))) {
                    count++;
                }
            }
        }
        return count;
    }

    // ---- pointers, as they were synced last

    public int places(int file, int block) throws IllegalArgumentException {
        if (!isBlockOfFile(file, block)) {
            throw new IllegalArgumentException("file or block is out of range");
        }
        return tree.countPlaces(blockPointer(file, block));
    }

    public int place(int file, int block, int place)
            throws IllegalArgumentException, NoSuchElementException {
        if (!isBlockOfFile(file, block)) {
            throw new IllegalArgumentException("file or block is out of range");
        }
        return told(tree.placeOf(blockPointer(file, block), place));
    }

    public int nodePlace(int file, int place)
            throws IllegalArgumentException, NoSuchElementException {
        if (!isFile(file)) {
            throw new IllegalArgumentException("file is out of range");
        }
        return told(tree.placeOf(filePointer(file), place));
    }

    public int rootPlace(int place) throws NoSuchElementException {
        return told(tree.placeOf(ROOT, place));
    }

    public int birth(int file, int block) throws IllegalArgumentException {
        if (!isBlockOfFile(file, block)) {
            throw new IllegalArgumentException("file or block is out of range");
        }
        return tree.birthOf(blockPointer(file, block));
    }

    public int checksum(int file) throws IllegalArgumentException {
        if (!isFile(file)) {
            throw new IllegalArgumentException("file is out of range");
        }
        return tree.checksumOf(filePointer(file));
    }

    public int rootChecksum() {
        return tree.checksumOf(ROOT);
    }

    // ---- ranges and numbers

    private static boolean isFile(int file) {
        return file >= 0 && file < FILES;
    }

    private static boolean isBlock(int block) {
        return block >= 0 && block < BLOCKS;
    }

    private static boolean isBlockOfFile(int file, int block) {
        return isFile(file) && isBlock(block);
    }

    private static boolean isMirror(int mirror) {
        return mirror >= 0 && mirror < MIRRORS;
    }

    private static boolean isSideOfMirror(int mirror, int side) {
        return mirror >= 0 && mirror < MIRRORS && side >= 0 && side < SIDES;
    }

    private static boolean isCell(int cell) {
        return cell >= 0 && cell < CELLS;
    }

    private static boolean isPlaceNumber(int place) {
        return place >= 0 && place < ALL_CELLS;
    }

    private static boolean isCellOnSide(int place, int side) {
        return place >= 0 && place < ALL_CELLS && side >= 0 && side < SIDES;
    }

    private static boolean isPointer(int pointer) {
        return pointer >= 0 && pointer < POINTERS;
    }

    private static boolean isBlockPointer(int pointer) {
        return pointer >= 0 && pointer < ALL_BLOCKS;
    }

    private static int blockPointer(int file, int block) {
        return file * BLOCKS + block;
    }

    private static int filePointer(int file) {
        return FIRST_FILE_POINTER + file;
    }

    /** Inside the class a place is one number without gaps, so that it serves as an index. */
    private static int placeNumber(int mirror, int cell) {
        return mirror * CELLS + cell;
    }

    private static int mirrorOf(int place) {
        return place / CELLS;
    }

    private static int told(int place) throws NoSuchElementException {
        if (!isPlaceNumber(place)) {
            throw new NoSuchElementException("there is no such place");
        }
        return 100 * mirrorOf(place) + place % CELLS;
    }

    // ---- values

    private int valueNow(int file, int block) {
        int pointer = blockPointer(file, block);
        return open.holds(pointer) ? open.changeOf(pointer) : tree.valueOf(pointer);
    }

    private boolean hasData(int file) {
        for (int block = 0; block < BLOCKS; block++) {
            if (valueNow(file, block) != HOLE) {
                return true;
            }
        }
        return false;
    }

    private boolean hasDataAnywhere() {
        for (int file = 0; file < FILES; file++) {
            if (hasData(file)) {
                return true;
            }
        }
        return false;
    }

    // ---- reading and healing

    private boolean canFetch(int pointer) {
        for (int nth = 0; nth < MOST_COPIES; nth++) {
            int place = tree.placeOf(pointer, nth);
            for (int side = 0; side < SIDES; side++) {
                if (cells.isGood(place, side)) {
                    return true;
                }
            }
        }
        return false;
    }

    private boolean isUnreadable(int pointer) {
        return !tree.isMissing(pointer) && !canFetch(pointer);
    }

    private int healUpToGoodCell(int pointer) {
        int count = 0;
        for (int nth = 0; nth < MOST_COPIES; nth++) {
            int place = tree.placeOf(pointer, nth);
            for (int side = 0; side < SIDES; side++) {
                if (cells.isGood(place, side)) {
                    return count;
                }
                count += cells.heal(place, side);
            }
        }
        return count;
    }

    private int healEveryCell(int pointer) {
        int count = 0;
        for (int nth = 0; nth < MOST_COPIES; nth++) {
            int place = tree.placeOf(pointer, nth);
            for (int side = 0; side < SIDES; side++) {
                count += cells.heal(place, side);
            }
        }
        return count;
    }

    private int scrubFile(int file) {
        int node = filePointer(file);
        if (!canFetch(node)) {
            return 0;
        }
        int count = healEveryCell(node);
        for (int block = 0; block < BLOCKS; block++) {
            int pointer = blockPointer(file, block);
            if (canFetch(pointer)) {
                count += healEveryCell(pointer);
            }
        }
        return count;
    }

    // ---- syncing

    /** Nothing but the choice itself changes here, so that a sync without room can be refused. */
    private boolean choosePlaces() {
        choice.begin(cells);
        for (int file = 0; file < FILES; file++) {
            if (open.changes(file) && !chooseForFile(file)) {
                return false;
            }
        }
        return !hasDataAnywhere() || choice.choose(cells, ROOT, NODE_COPIES);
    }

    private boolean chooseForFile(int file) {
        int wanted = isFile(file) ? copiesOfFile[file] : 1;
        for (int block = 0; block < BLOCKS; block++) {
            int pointer = blockPointer(file, block);
            boolean isWritten = open.holds(pointer) && open.changeOf(pointer) != HOLE;
            if (isWritten && !choice.choose(cells, pointer, wanted)) {
                return false;
            }
        }
        return !hasData(file) || choice.choose(cells, filePointer(file), NODE_COPIES);
    }

    private int writeChanges() {
        int written = 0;
        for (int file = 0; file < FILES; file++) {
            if (open.changes(file)) {
                written += writeFile(file);
            }
        }
        return written + repoint(ROOT, tree.checksumOfNode(FIRST_FILE_POINTER, FILES));
    }

    private int writeFile(int file) {
        int written = 0;
        for (int block = 0; block < BLOCKS; block++) {
            int pointer = blockPointer(file, block);
            if (open.holds(pointer)) {
                int value = open.changeOf(pointer);
                tree.keepValue(pointer, value);
                written += repoint(pointer, (31 * value + 17) % MODULUS);
            }
        }
        int node = filePointer(file);
        return written + repoint(node, tree.checksumOfNode(blockPointer(file, 0), BLOCKS));
    }

    /** Writes a pointer anew; one without a chosen place leads to nothing any more. */
    private int repoint(int pointer, int checksum) {
        int first = choice.firstFor(pointer);
        int second = choice.secondFor(pointer);
        if (first == NOWHERE) {
            tree.drop(pointer);
            return 0;
        }
        tree.point(pointer, first, second);
        tree.sign(pointer, checksum, open.number);
        cells.fill(first);
        cells.fill(second);
        return second == NOWHERE ? 1 : 2;
    }

    private void freeWhatIsNotPointedTo() {
        cells.freeAll();
        for (int pointer = 0; pointer < POINTERS; pointer++) {
            for (int nth = 0; nth < MOST_COPIES; nth++) {
                cells.use(tree.placeOf(pointer, nth));
            }
        }
    }

    // ---- resilvering

    /** A missing pointer has the birth 0, so that it is never greater than an outage. */
    private int resilver(int mirror, int side) {
        int outage = cells.outageOf(mirror, side);
        if (tree.birthOf(ROOT) <= outage) {
            return 0;
        }
        int copied = copyToSide(ROOT, mirror, side);
        for (int file = 0; file < FILES; file++) {
            if (tree.birthOf(filePointer(file)) > outage) {
                copied += resilverFile(file, mirror, side);
            }
        }
        return copied;
    }

    private int resilverFile(int file, int mirror, int side) {
        int outage = cells.outageOf(mirror, side);
        int copied = copyToSide(filePointer(file), mirror, side);
        for (int block = 0; block < BLOCKS; block++) {
            int pointer = blockPointer(file, block);
            if (tree.birthOf(pointer) > outage) {
                copied += copyToSide(pointer, mirror, side);
            }
        }
        return copied;
    }

    private int copyToSide(int pointer, int mirror, int side) {
        int copied = 0;
        for (int nth = 0; nth < MOST_COPIES; nth++) {
            int place = tree.placeOf(pointer, nth);
            if (place != NOWHERE && mirrorOf(place) == mirror) {
                cells.mark(place, side, !canFetch(pointer));
                copied++;
            }
        }
        return copied;
    }

    /** The changes of the open group, by the pointer of their block. */
    private static final class OpenGroup {
        private final int[] change;
        private int number;

        OpenGroup() {
            change = new int[ALL_BLOCKS];
            Arrays.fill(change, NOTHING);
            number = 1;
        }

        boolean holds(int pointer) {
            return isBlockPointer(pointer) && change[pointer] != NOTHING;
        }

        int changeOf(int pointer) {
            return isBlockPointer(pointer) ? change[pointer] : NOTHING;
        }

        void change(int pointer, int value) {
            if (isBlockPointer(pointer)) {
                change[pointer] = value;
            }
        }

        boolean changes(int file) {
            for (int block = 0; block < BLOCKS; block++) {
                if (holds(blockPointer(file, block))) {
                    return true;
                }
            }
            return false;
        }

        int count() {
            int count = 0;
            for (int pointer = 0; pointer < ALL_BLOCKS; pointer++) {
                if (holds(pointer)) {
                    count++;
                }
            }
            return count;
        }

        void dropChanges() {
            Arrays.fill(change, NOTHING);
        }

        void close() {
            dropChanges();
            number++;
        }
    }

    /** The pointers, and the values that the blocks have, as they were synced last. */
    private static final class Tree {
        private final int[] value;
        private final int[] first;
        private final int[] second;
        private final int[] checksum;
        private final int[] birth;

        Tree() {
            value = new int[ALL_BLOCKS];
            Arrays.fill(value, HOLE);
            first = new int[POINTERS];
            Arrays.fill(first, NOWHERE);
            second = new int[POINTERS];
            Arrays.fill(second, NOWHERE);
            checksum = new int[POINTERS];
            birth = new int[POINTERS];
        }

        int valueOf(int pointer) {
            return isBlockPointer(pointer) ? value[pointer] : HOLE;
        }

        void keepValue(int pointer, int synced) {
            if (isBlockPointer(pointer)) {
                value[pointer] = synced;
            }
        }

        boolean isMissing(int pointer) {
            return placeOf(pointer, 0) == NOWHERE;
        }

        int placeOf(int pointer, int nth) {
            if (!isPointer(pointer)) {
                return NOWHERE;
            }
            if (nth == 0) {
                return first[pointer];
            }
            return nth == 1 ? second[pointer] : NOWHERE;
        }

        int countPlaces(int pointer) {
            if (isMissing(pointer)) {
                return 0;
            }
            return placeOf(pointer, 1) == NOWHERE ? 1 : 2;
        }

        int checksumOf(int pointer) {
            return isPointer(pointer) ? checksum[pointer] : 0;
        }

        int birthOf(int pointer) {
            return isPointer(pointer) ? birth[pointer] : 0;
        }

        /** A missing pointer keeps checksum and birth 0, which is what it counts in a node. */
        int checksumOfNode(int firstPointer, int count) {
            int sum = 1;
            for (int nth = 0; nth < count; nth++) {
                int pointer = firstPointer + nth;
                sum = (sum * 131 + checksumOf(pointer) + birthOf(pointer)) % MODULUS;
            }
            return sum;
        }

        void point(int pointer, int firstPlace, int secondPlace) {
            if (isPointer(pointer)) {
                first[pointer] = firstPlace;
                second[pointer] = secondPlace;
            }
        }

        void sign(int pointer, int sum, int group) {
            if (isPointer(pointer)) {
                checksum[pointer] = sum;
                birth[pointer] = group;
            }
        }

        void drop(int pointer) {
            point(pointer, NOWHERE, NOWHERE);
            sign(pointer, 0, 0);
        }
    }

    /** The cells of all mirrors, and which sides are online. */
    private static final class Cells {
        private final boolean[] used;
        private final boolean[] spoilt;
        private final boolean[] away;
        private final int[] outage;

        Cells() {
            used = new boolean[ALL_CELLS];
            spoilt = new boolean[SIDES * ALL_CELLS];
            away = new boolean[MIRRORS * SIDES];
            outage = new int[MIRRORS * SIDES];
        }

        boolean hasOnline(int mirror, int side) {
            return isSideOfMirror(mirror, side) && !away[mirror * SIDES + side];
        }

        int outageOf(int mirror, int side) {
            return isSideOfMirror(mirror, side) ? outage[mirror * SIDES + side] : 0;
        }

        void takeOffline(int mirror, int side, int lastBirth) {
            if (isSideOfMirror(mirror, side)) {
                away[mirror * SIDES + side] = true;
                outage[mirror * SIDES + side] = lastBirth;
            }
        }

        void bringOnline(int mirror, int side) {
            if (isSideOfMirror(mirror, side)) {
                away[mirror * SIDES + side] = false;
            }
        }

        boolean isUsed(int place) {
            return isPlaceNumber(place) && used[place];
        }

        void use(int place) {
            if (isPlaceNumber(place)) {
                used[place] = true;
            }
        }

        void freeAll() {
            for (int place = 0; place < ALL_CELLS; place++) {
                used[place] = false;
            }
        }

        int countFree(int mirror) {
            int count = 0;
            for (int cell = 0; cell < CELLS; cell++) {
                if (!isUsed(placeNumber(mirror, cell))) {
                    count++;
                }
            }
            return count;
        }

        /** A free cell may still bear a mark of its last use: it tells nothing until it is used. */
        boolean hasSpoilt(int place, int side) {
            return isCellOnSide(place, side) && used[place] && spoilt[side * ALL_CELLS + place];
        }

        boolean isGood(int place, int side) {
            return isCellOnSide(place, side) && used[place]
                    && !away[mirrorOf(place) * SIDES + side] && !spoilt[side * ALL_CELLS + place];
        }

        void mark(int place, int side, boolean isSpoiltThere) {
            if (isCellOnSide(place, side)) {
                spoilt[side * ALL_CELLS + place] = isSpoiltThere;
            }
        }

        int heal(int place, int side) {
            if (!hasSpoilt(place, side) || !hasOnline(mirrorOf(place), side)) {
                return 0;
            }
            mark(place, side, false);
            return 1;
        }

        /** A side that is offline keeps what it has; it gets this by resilvering. */
        void fill(int place) {
            for (int side = 0; side < SIDES; side++) {
                if (isPlaceNumber(place) && hasOnline(mirrorOf(place), side)) {
                    mark(place, side, false);
                }
            }
        }
    }

    /** The places that a sync chooses, kept apart from the tree until there is one for all. */
    private static final class Choice {
        private final int[] room;
        private final int[] nextCell;
        private final int[] first;
        private final int[] second;

        Choice() {
            room = new int[MIRRORS];
            nextCell = new int[MIRRORS];
            first = new int[POINTERS];
            second = new int[POINTERS];
        }

        void begin(Cells cells) {
            Arrays.fill(first, NOWHERE);
            Arrays.fill(second, NOWHERE);
            Arrays.fill(nextCell, 0);
            for (int mirror = 0; mirror < MIRRORS; mirror++) {
                room[mirror] = cells.countFree(mirror);
            }
        }

        int firstFor(int pointer) {
            return isPointer(pointer) ? first[pointer] : NOWHERE;
        }

        int secondFor(int pointer) {
            return isPointer(pointer) ? second[pointer] : NOWHERE;
        }

        boolean choose(Cells cells, int pointer, int count) {
            if (!isPointer(pointer)) {
                return false;
            }
            int taken = takeBeside(cells, NOWHERE);
            first[pointer] = taken;
            if (taken == NOWHERE || count < 2) {
                return taken != NOWHERE;
            }
            second[pointer] = takeBeside(cells, mirrorOf(taken));
            return second[pointer] != NOWHERE;
        }

        private int takeBeside(Cells cells, int mirrorToShun) {
            int mirror = roomiestBeside(mirrorToShun);
            if (!isMirror(mirror)) {
                return NOWHERE;
            }
            int cell = nextCell[mirror];
            while (cell < CELLS && cells.isUsed(placeNumber(mirror, cell))) {
                cell++;
            }
            if (!isCell(cell)) {
                return NOWHERE;
            }
            nextCell[mirror] = cell + 1;
            room[mirror]--;
            return placeNumber(mirror, cell);
        }

        private int roomiestBeside(int mirrorToShun) {
            int found = NOWHERE;
            int most = 0;
            for (int mirror = 0; mirror < MIRRORS; mirror++) {
                if (mirror != mirrorToShun && room[mirror] > most) {
                    found = mirror;
                    most = room[mirror];
                }
            }
            return found;
        }
    }
}
