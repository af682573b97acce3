/** Promise 8, where the pool is full or nearly so, and the sentences on places. */
public final class FullPoolTest {
    public static void main(String[] args) {
        noCellForTheFirstPlaceOfABlock();
        noCellForTheSecondPlaceOfABlock();
        noCellForTheSecondPlaceBesideFreeOnes();
        noCellForANode();
        noCellForTheRootNode();
        exactlyAllCells();
        refusedSyncChangesNothing();
        refusedSyncKeepsItsGroup();
        freedCellsAreNotUsedInTheSameSync();
        nodeOfAPunchedFileWantsCellsToo();
        punchOfEverythingFitsAlways();
        offlineSidesTakeNoRoomAway();
        mirrorWithoutAFreeCell();
        mirrorWithoutAFreeCellIsNoPlace();
        roomiestMirrorTakesTheFirstPlace();
        lowestMirrorOfSeveral();
        lowestFreeCell();
        Check.end();
    }

    private static int freeCells(Zfsmill x) {
        return x.free(0) + x.free(1) + x.free(2);
    }

    private static void writeBlocks(Zfsmill x, int file, int count) {
        for (int block = 0; block < count; block++) {
            x.write(file, block, 7);
        }
    }

    private static void refusedUntilAbandoned(Zfsmill x, int buffered) {
        int free = freeCells(x);
        Check.due(Check.BAD_STATE, x::sync);
        Check.due(buffered, x::buffered);
        Check.due(free, () -> freeCells(x));
        Check.due(buffered, x::abandon);
        Check.due(0, x::sync);
    }

    /** 12 blocks with one place each and their node take all 14 cells. */
    private static void noCellForTheFirstPlaceOfABlock() {
        Check.promise("8 sync, no free cell for the first place of a block");
        Zfsmill x = Pools.allBlocks();
        x.setCopies(0, 1);
        x.setCopies(1, 1);
        writeBlocks(x, 0, 12);
        x.write(1, 0, 7);
        refusedUntilAbandoned(x, 13);
    }

    /** Seven blocks with two places each take all 14 cells, and an eighth one has none. */
    private static void noCellForTheSecondPlaceOfABlock() {
        Check.promise("8 sync, no free cell for the places of a block");
        Zfsmill x = Pools.allBlocks();
        writeBlocks(x, 2, 8);
        refusedUntilAbandoned(x, 8);
    }

    /** Of 20, 9 and 9 free cells 38 places take all, but two by two only 36 are found. */
    private static void noCellForTheSecondPlaceBesideFreeOnes() {
        Check.promise("8 sync, no free cell on the two other mirrors");
        Zfsmill refused = Pools.skewed();
        writeBlocks(refused, 2, 8);
        writeBlocks(refused, 3, 8);
        refusedUntilAbandoned(refused, 16);
        Zfsmill taken = Pools.skewed();
        writeBlocks(taken, 2, 8);
        writeBlocks(taken, 3, 7);
        Check.due(36, taken::sync);
        Zfsmill block = Pools.skewed();
        writeBlocks(block, 1, 12);
        writeBlocks(block, 2, 6);
        refusedUntilAbandoned(block, 18);
    }

    private static void noCellForANode() {
        Check.promise("8 sync, no free cell for a node");
        Zfsmill x = Pools.allBlocks();
        writeBlocks(x, 2, 7);
        refusedUntilAbandoned(x, 7);
    }

    private static void noCellForTheRootNode() {
        Check.promise("8 sync, no free cell for the root node");
        Zfsmill x = Pools.allBlocks();
        writeBlocks(x, 2, 6);
        refusedUntilAbandoned(x, 6);
    }

    private static void exactlyAllCells() {
        Check.promise("8 sync, the last free cells are taken");
        Zfsmill x = Pools.allBlocks();
        writeBlocks(x, 2, 5);
        Check.due(14, x::sync);
        Check.due(14, () -> freeCells(x));
        Zfsmill y = Pools.allBlocks();
        y.setCopies(2, 1);
        writeBlocks(y, 2, 10);
        Check.due(14, y::sync);
        Check.due(24, () -> freeCells(y));
        Check.due(false, () -> y.isFree(0, 39));
        Check.due(false, () -> y.isFree(1, 39));
        Check.due(false, () -> y.isFree(2, 39));
        Zfsmill z = Pools.allBlocks();
        z.setCopies(2, 1);
        writeBlocks(z, 2, 11);
        refusedUntilAbandoned(z, 11);
    }

    private static void refusedSyncChangesNothing() {
        Check.promise("8 sync, refused");
        Zfsmill x = Pools.allBlocks();
        int[] places = new int[48];
        for (int nth = 0; nth < 48; nth++) {
            places[nth] = x.place(nth / 12, nth % 12, 0);
        }
        int node = x.nodePlace(0, 0);
        int sum = x.checksum(0);
        writeBlocks(x, 0, 2);
        x.punch(1, 0, 11);
        writeBlocks(x, 2, 5);
        Check.due(Check.BAD_STATE, x::sync);
        for (int nth = 0; nth < 48; nth++) {
            int file = nth / 12;
            int block = nth % 12;
            int place = places[nth];
            Check.due(place, () -> x.place(file, block, 0));
            Check.due(1, () -> x.birth(file, block));
        }
        Check.due(node, () -> x.nodePlace(0, 0));
        Check.due(sum, () -> x.checksum(0));
        Check.due(7, () -> x.read(0, 0));
        Check.due(0, () -> x.read(1, 0));
        Check.due(19, x::buffered);
        x.abandon();
        Check.due(1, () -> x.read(0, 0));
        Check.due(101, () -> x.read(1, 0));
    }

    private static void refusedSyncKeepsItsGroup() {
        Check.promise("8 sync, refused");
        Zfsmill x = Pools.allBlocks();
        writeBlocks(x, 2, 6);
        for (int nth = 0; nth < 20; nth++) {
            Check.due(Check.BAD_STATE, x::sync);
            Check.due(2, x::group);
        }
        x.punch(2, 5, 5);
        Check.due(14, x::sync);
        Check.due(3, x::group);
        Check.due(2, () -> x.birth(2, 0));
        // What was tried in vain has taken nothing: the places are those of a first try.
        Zfsmill y = Pools.allBlocks();
        writeBlocks(y, 2, 5);
        y.punch(2, 5, 5);
        y.sync();
        Check.due(y.rootPlace(0), () -> x.rootPlace(0));
        Check.due(y.rootPlace(1), () -> x.rootPlace(1));
        Check.due(y.place(2, 4, 1), () -> x.place(2, 4, 1));
    }

    private static void freedCellsAreNotUsedInTheSameSync() {
        Check.promise("8 sync, none of the freed cells is used anew within the same sync");
        Zfsmill x = Pools.allBlocks();
        x.punch(0, 0, 11);
        x.punch(1, 0, 11);
        writeBlocks(x, 2, 6);
        Check.due(Check.BAD_STATE, x::sync);
        x.abandon();
        x.punch(0, 0, 11);
        x.punch(1, 0, 11);
        Check.due(2, x::sync);
        Check.due(14 + 26 + 26, () -> freeCells(x));
        writeBlocks(x, 2, 12);
        Check.due(28, x::sync);
        Check.due(66, () -> freeCells(x));
        Zfsmill y = Pools.oneBlock();
        int[] before = {y.place(0, 0, 0), y.nodePlace(0, 0), y.nodePlace(0, 1), y.rootPlace(0),
            y.rootPlace(1)};
        y.write(0, 0, 5);
        Check.due(5, y::sync);
        for (int old : before) {
            Check.due(false, () -> old == y.place(0, 0, 0));
            Check.due(false, () -> old == y.nodePlace(0, 0) || old == y.nodePlace(0, 1));
            Check.due(false, () -> old == y.rootPlace(0) || old == y.rootPlace(1));
            Check.due(true, () -> y.isFree(old / 100, old % 100));
        }
    }

    /** Four nodes and the root node take 10 of the 14 cells, so that two blocks fit as well. */
    private static void nodeOfAPunchedFileWantsCellsToo() {
        Check.promise("8 sync, the nodes of punched files");
        Zfsmill x = Pools.allBlocks();
        for (int file = 0; file < 4; file++) {
            x.punch(file, 0, 0);
        }
        writeBlocks(x, 3, 1);
        Check.due(12, x::sync);
        Zfsmill y = Pools.allBlocks();
        for (int file = 0; file < 4; file++) {
            y.punch(file, 0, 0);
        }
        y.write(3, 1, 7);
        y.write(3, 2, 7);
        Check.due(14, y::sync);
        Zfsmill z = Pools.allBlocks();
        for (int file = 0; file < 4; file++) {
            z.punch(file, 0, 0);
        }
        writeBlocks(z, 3, 3);
        refusedUntilAbandoned(z, 6);
    }

    private static void punchOfEverythingFitsAlways() {
        Check.promise("8 sync, all blocks are punched");
        Zfsmill x = Pools.firstAndLastCells();
        for (int file = 0; file < 4; file++) {
            int f = file;
            Check.due(12, () -> x.punch(f, 0, 11));
        }
        Check.due(0, x::sync);
        Check.due(120, () -> freeCells(x));
        Check.due(Check.NO_ELEMENT, () -> x.rootPlace(0));
        Check.due(4, x::group);
    }

    private static void offlineSidesTakeNoRoomAway() {
        Check.promise("8 sync, with sides offline");
        Zfsmill x = new Zfsmill();
        for (int mirror = 0; mirror < 3; mirror++) {
            x.offline(mirror, mirror % 2);
        }
        x.write(0, 0, 5);
        Check.due(5, x::sync);
        Check.due(0, () -> x.place(0, 0, 0));
        Check.due(100, () -> x.nodePlace(0, 0));
        Check.due(200, () -> x.nodePlace(0, 1));
        Check.due(1, () -> x.rootPlace(0));
        Check.due(101, () -> x.rootPlace(1));
        Check.due(38, () -> x.free(0));
    }

    private static void mirrorWithoutAFreeCell() {
        Zfsmill x = Pools.fullMirror0();
        Check.promise("16 isFree, no cell is free");
        for (int cell = 0; cell < 40; cell++) {
            int c = cell;
            Check.due(false, () -> x.isFree(0, c));
        }
        Check.promise("17 free, no cell is free");
        Check.due(0, () -> x.free(0));
        Check.due(7, () -> x.free(1));
        Check.due(7, () -> x.free(2));
        Check.promise("14 spoil, all cells of a mirror");
        for (int cell = 0; cell < 40; cell++) {
            int c = cell;
            Check.due(true, () -> x.spoil(0, 0, c));
            Check.due(true, () -> x.spoil(0, 1, c));
        }
        // Each pointer that has a place there has another one, which is good.
        Check.due(0, x::lost);
        Check.due(80, x::scrub);
    }

    /** All places are on the two other mirrors: seven pointers fit, an eighth one does not. */
    private static void mirrorWithoutAFreeCellIsNoPlace() {
        Check.promise("8 sync, a mirror without a free cell");
        Zfsmill x = Pools.fullMirror0();
        writeBlocks(x, 3, 5);
        Check.due(14, x::sync);
        for (int block = 0; block < 5; block++) {
            int b = block;
            Check.due(1, () -> x.place(3, b, 0) / 100);
            Check.due(2, () -> x.place(3, b, 1) / 100);
        }
        Check.due(1, () -> x.nodePlace(3, 0) / 100);
        Check.due(2, () -> x.nodePlace(3, 1) / 100);
        Check.due(1, () -> x.rootPlace(0) / 100);
        Check.due(2, () -> x.rootPlace(1) / 100);
        Zfsmill y = Pools.fullMirror0();
        writeBlocks(y, 3, 6);
        refusedUntilAbandoned(y, 6);
    }

    // Places

    private static void roomiestMirrorTakesTheFirstPlace() {
        Check.promise("8 sync, the mirror with the most free cells");
        Zfsmill x = Pools.skewed();
        // 20 9 9, by the blocks 17 9 9, by the node 16 8 9.
        x.setCopies(0, 1);
        x.write(0, 0, 1);
        x.write(0, 1, 2);
        x.write(0, 2, 3);
        Check.due(7, x::sync);
        Check.due(0, () -> x.place(0, 0, 0) / 100);
        Check.due(0, () -> x.place(0, 1, 0) / 100);
        Check.due(0, () -> x.place(0, 2, 0) / 100);
        Check.due(0, () -> x.nodePlace(0, 0) / 100);
        Check.due(1, () -> x.nodePlace(0, 1) / 100);
        Check.due(0, () -> x.rootPlace(0) / 100);
        Check.due(2, () -> x.rootPlace(1) / 100);
    }

    private static void lowestMirrorOfSeveral() {
        Check.promise("8 sync, of several mirrors the one with the lowest number");
        Zfsmill x = new Zfsmill();
        for (int block = 0; block < 7; block++) {
            x.write(0, block, 1);
        }
        x.sync();
        // One place each: all in turn; the node from 37 38 38, the root node from 37 37 37.
        for (int block = 0; block < 7; block++) {
            int b = block;
            Check.due(100 * (b % 3) + b / 3, () -> x.place(0, b, 0));
        }
        Check.due(102, () -> x.nodePlace(0, 0));
        Check.due(202, () -> x.nodePlace(0, 1));
        Check.due(3, () -> x.rootPlace(0));
        Check.due(103, () -> x.rootPlace(1));
        Zfsmill y = new Zfsmill();
        y.setCopies(0, 2);
        y.write(0, 0, 1);
        y.sync();
        // Two places: the first of three alike on 0, the second of two alike on 1.
        Check.due(0, () -> y.place(0, 0, 0));
        Check.due(100, () -> y.place(0, 0, 1));
        Check.due(200, () -> y.nodePlace(0, 0));
        Check.due(1, () -> y.nodePlace(0, 1));
        Check.due(101, () -> y.rootPlace(0));
        Check.due(201, () -> y.rootPlace(1));
    }

    private static void lowestFreeCell() {
        Check.promise("8 sync, the free cell with the lowest number");
        Zfsmill x = new Zfsmill();
        for (int block = 0; block < 12; block++) {
            x.write(0, block, 1);
        }
        x.sync();
        // Blocks at 0 to 3 of each mirror, the node at 4 and 104, the root node at 204 and 5.
        x.punch(0, 3, 3);
        x.punch(0, 9, 9);
        x.sync();
        // The node from 34 35 35, the root node from 34 34 34; what was freed is used behind it.
        Check.due(105, () -> x.nodePlace(0, 0));
        Check.due(205, () -> x.nodePlace(0, 1));
        Check.due(6, () -> x.rootPlace(0));
        Check.due(106, () -> x.rootPlace(1));
        Check.due(37, () -> x.free(0));
        // Free on mirror 0 are now 1, 3, 4, 5 and those from 7 on, two more than on mirror 2.
        x.write(1, 0, 1);
        x.write(1, 1, 1);
        x.write(1, 2, 1);
        x.sync();
        Check.due(1, () -> x.place(1, 0, 0));
        Check.due(3, () -> x.place(1, 1, 0));
        Check.due(4, () -> x.place(1, 2, 0));
    }
}
