/** Promises 8 to 11. */
public final class GroupsTest {
    public static void main(String[] args) {
        syncCountsPlaces();
        syncOfNothing();
        syncOfHolesOverHoles();
        syncFreesBehindAll();
        syncSpreadsByFreeCells();
        syncWritesRightCells();
        syncWithoutRoomChangesNothing();
        syncFillsThePoolToTheLastCell();
        abandon();
        group();
        buffered();
        Check.end();
    }

    private static void syncCountsPlaces() {
        Check.promise("8 sync");
        Zfsmill x = new Zfsmill();
        x.setCopies(1, 2);
        x.write(0, 0, 1);
        x.write(0, 1, 2);
        x.write(1, 5, 3);
        Check.due(2 + 2 + 2 + 2 + 2, x::sync);
        Check.due(0, x::buffered);
        Check.due(2, x::group);
        x.write(1, 5, 3);
        x.punch(0, 1, 1);
        Check.due(2 + 2 + 2 + 2, x::sync);
        x.punch(1, 5, 5);
        Check.due(2, x::sync);
        Check.due(Check.NO_ELEMENT, () -> x.nodePlace(1, 0));
        x.punch(0, 0, 0);
        Check.due(0, x::sync);
        Check.due(Check.NO_ELEMENT, () -> x.rootPlace(0));
        Check.due(40, () -> x.free(0));
        Check.due(40, () -> x.free(1));
        Check.due(40, () -> x.free(2));
        Check.due(5, x::group);
    }

    private static void syncOfNothing() {
        Check.promise("8 sync");
        Zfsmill x = new Zfsmill();
        Check.due(0, x::sync);
        Check.due(0, x::sync);
        Check.due(3, x::group);
        x.write(2, 2, 2);
        Check.due(5, x::sync);
        int root = x.rootPlace(0);
        x.setCopies(2, 2);
        Check.due(0, x::sync);
        Check.due(root, () -> x.rootPlace(0));
        Check.due(3, () -> x.birth(2, 2));
        Check.due(1, () -> x.places(2, 2));
        Check.due(5, x::group);
    }

    private static void syncOfHolesOverHoles() {
        Check.promise("8 sync");
        Zfsmill x = new Zfsmill();
        x.punch(0, 0, 11);
        Check.due(0, x::sync);
        x.write(0, 0, 1);
        x.sync();
        int node = x.nodePlace(0, 0);
        int root = x.rootPlace(0);
        x.punch(3, 3, 4);
        Check.due(2, x::sync);
        Check.due(node, () -> x.nodePlace(0, 0));
        Check.due(false, () -> x.rootPlace(0) == root);
        x.punch(0, 3, 4);
        Check.due(4, x::sync);
        Check.due(false, () -> x.nodePlace(0, 0) == node);
        Check.due(2, () -> x.birth(0, 0));
    }

    private static void syncFreesBehindAll() {
        Check.promise("8 sync");
        Zfsmill x = new Zfsmill();
        x.write(0, 0, 1);
        x.sync();
        // Before: block 0, node 100 and 200, root 1 and 101; free are 38, 38, 39.
        x.write(0, 0, 2);
        Check.due(5, x::sync);
        Check.due(201, () -> x.place(0, 0, 0));
        Check.due(2, () -> x.nodePlace(0, 0));
        Check.due(102, () -> x.nodePlace(0, 1));
        Check.due(202, () -> x.rootPlace(0));
        Check.due(3, () -> x.rootPlace(1));
        Check.due(true, () -> x.isFree(0, 0));
        Check.due(true, () -> x.isFree(0, 1));
        Check.due(true, () -> x.isFree(1, 0));
        Check.due(true, () -> x.isFree(1, 1));
        Check.due(true, () -> x.isFree(2, 0));
        Check.due(38, () -> x.free(0));
        Check.due(39, () -> x.free(1));
        Check.due(38, () -> x.free(2));
        x.write(0, 1, 2);
        x.sync();
        Check.due(100, () -> x.place(0, 1, 0));
        Check.due(201, () -> x.place(0, 0, 0));
    }

    private static void syncSpreadsByFreeCells() {
        Check.promise("8 sync");
        Zfsmill x = new Zfsmill();
        x.setCopies(0, 2);
        x.write(0, 0, 1);
        x.write(0, 1, 1);
        x.write(0, 2, 1);
        x.write(3, 0, 1);
        x.sync();
        // 40 40 40, then by the blocks 39 39 40, 38 39 39, 38 38 38, by the node 37 37 38, by the
        // single block 37 37 37, by its node 36 36 37, by the root 35 36 36.
        int[][] due = {{0, 100}, {200, 1}, {101, 201}};
        for (int block = 0; block < 3; block++) {
            int b = block;
            Check.due(due[b][0], () -> x.place(0, b, 0));
            Check.due(due[b][1], () -> x.place(0, b, 1));
        }
        Check.due(2, () -> x.nodePlace(0, 0));
        Check.due(102, () -> x.nodePlace(0, 1));
        Check.due(202, () -> x.place(3, 0, 0));
        Check.due(3, () -> x.nodePlace(3, 0));
        Check.due(103, () -> x.nodePlace(3, 1));
        Check.due(203, () -> x.rootPlace(0));
        Check.due(4, () -> x.rootPlace(1));
    }

    private static void syncWritesRightCells() {
        Check.promise("8 sync");
        Zfsmill x = new Zfsmill();
        x.write(0, 0, 1);
        x.sync();
        for (int side = 0; side < 2; side++) {
            x.spoil(0, side, 0);
            x.spoil(1, side, 0);
        }
        x.punch(0, 0, 0);
        x.sync();
        x.write(0, 0, 2);
        x.sync();
        Check.due(0, () -> x.place(0, 0, 0));
        for (int side = 0; side < 2; side++) {
            int s = side;
            Check.due(false, () -> x.isSpoilt(0, s, 0));
            Check.due(false, () -> x.isSpoilt(1, s, 0));
        }
        Check.due(2, () -> x.read(0, 0));
        Check.due(0, x::healed);
        for (int side = 0; side < 2; side++) {
            x.spoil(2, side, 0);
        }
        x.punch(0, 0, 0);
        x.sync();
        x.write(0, 0, 2);
        x.sync();
        Check.due(200, () -> x.nodePlace(0, 1));
        Check.due(false, () -> x.isSpoilt(2, 0, 0));
        Check.due(false, () -> x.isSpoilt(2, 1, 0));
    }

    private static void syncWithoutRoomChangesNothing() {
        Check.promise("8 sync");
        Zfsmill x = Pools.allBlocks();
        int root = x.rootPlace(0);
        int sum = x.rootChecksum();
        for (int block = 0; block < 6; block++) {
            x.write(3, block, 7);
        }
        Check.due(Check.BAD_STATE, x::sync);
        Check.due(Check.BAD_STATE, x::sync);
        Check.due(6, x::buffered);
        Check.due(2, x::group);
        Check.due(root, () -> x.rootPlace(0));
        Check.due(sum, x::rootChecksum);
        Check.due(4, () -> x.free(0));
        Check.due(5, () -> x.free(1));
        Check.due(5, () -> x.free(2));
        Check.due(1, () -> x.birth(3, 0));
        Check.due(7, () -> x.read(3, 0));
        Check.due(6, x::abandon);
        Check.due(302, () -> x.read(3, 1));
        Check.due(0, x::buffered);
        // Too many by the blocks of file 0 alone, whatever comes after them.
        for (int block = 0; block < 12; block++) {
            x.write(0, block, 7);
        }
        Check.due(Check.BAD_STATE, x::sync);
        Check.due(12, x::buffered);
        Check.due(1, () -> x.birth(0, 0));
        Check.due(root, () -> x.rootPlace(0));
        x.punch(1, 0, 11);
        Check.due(Check.BAD_STATE, x::sync);
        Check.due(24, x::abandon);
        Check.due(112, () -> x.read(1, 11));
    }

    private static void syncFillsThePoolToTheLastCell() {
        Check.promise("8 sync");
        Zfsmill x = Pools.allBlocks();
        for (int block = 0; block < 5; block++) {
            x.write(3, block, 7);
        }
        Check.due(14, x::sync);
        Check.due(14, () -> x.free(0) + x.free(1) + x.free(2));
        Check.due(7, () -> x.read(3, 4));
        Check.due(306, () -> x.read(3, 5));
        Check.due(0, x::lost);
        x.setCopies(0, 1);
        for (int block = 0; block < 10; block++) {
            x.write(0, block, 8);
        }
        Check.due(14, x::sync);
        Check.due(24, () -> x.free(0) + x.free(1) + x.free(2));
    }

    private static void abandon() {
        Check.promise("9 abandon");
        Zfsmill x = new Zfsmill();
        Check.due(0, x::abandon);
        x.write(0, 0, 1);
        x.sync();
        x.write(0, 0, 2);
        x.write(3, 11, 2);
        x.punch(1, 4, 6);
        Check.due(5, x::abandon);
        Check.due(0, x::abandon);
        Check.due(0, x::buffered);
        Check.due(2, x::group);
        Check.due(1, () -> x.read(0, 0));
        Check.due(0, () -> x.read(3, 11));
        Check.due(0, x::sync);
    }

    private static void group() {
        Check.promise("10 group");
        Zfsmill x = new Zfsmill();
        Check.due(1, x::group);
        x.write(0, 0, 1);
        Check.due(1, x::group);
        x.sync();
        Check.due(2, x::group);
        x.sync();
        Check.due(3, x::group);
        x.abandon();
        Check.due(3, x::group);
    }

    private static void buffered() {
        Check.promise("11 buffered");
        Zfsmill x = new Zfsmill();
        Check.due(0, x::buffered);
        x.write(0, 0, 1);
        x.write(0, 0, 2);
        Check.due(1, x::buffered);
        x.punch(0, 0, 1);
        Check.due(2, x::buffered);
        x.setCopies(0, 2);
        Check.due(2, x::buffered);
        for (int file = 0; file < 4; file++) {
            x.punch(file, 0, 11);
        }
        Check.due(48, x::buffered);
        x.sync();
        Check.due(0, x::buffered);
    }
}
