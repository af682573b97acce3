/** Blocks that are all holes, and an empty buffer: what is missing then, and what a sync does. */
public final class HolesTest {
    public static void main(String[] args) {
        pointerOfAHoleIsMissing();
        fileOfHolesHasNoNode();
        lastBlockOfAFile();
        poolOfHolesHasNoRootNode();
        punchOfHolesIsBuffered();
        punchOfHolesInAFileWithANode();
        punchOfHolesInAPoolWithoutNodes();
        punchOfHolesBesideAnotherFile();
        bufferedHoleHidesWhatIsSynced();
        bufferedValueFillsAHole();
        noBlockIsAHole();
        emptyBufferSyncs();
        emptyBufferOfAnEmptyPoolSyncs();
        emptyBufferIsAbandoned();
        copiesAloneAreNoChange();
        abandonedChangesAreNoChange();
        sameValueIsAChange();
        emptyPoolHasNothing();
        Check.end();
    }

    private static void pointerOfAHoleIsMissing() {
        Check.promise("Terms: the pointer of a hole is missing");
        Zfsmill x = Pools.oneBlock();
        x.write(0, 1, 6);
        x.sync();
        x.punch(0, 0, 0);
        x.sync();
        for (int hole : new int[] {0, 2, 11}) {
            Check.due(0, () -> x.places(0, hole));
            Check.due(0, () -> x.birth(0, hole));
            Check.due(Check.NO_ELEMENT, () -> x.place(0, hole, 0));
            Check.due(Check.NO_ELEMENT, () -> x.place(0, hole, 1));
            Check.due(0, () -> x.read(0, hole));
        }
        Check.due(1, () -> x.places(0, 1));
        Check.due(2, () -> x.birth(0, 1));
        Check.due(6, () -> x.read(0, 1));
    }

    private static void fileOfHolesHasNoNode() {
        Check.promise("Terms: the pointer of a file is missing if all its blocks are holes");
        Zfsmill x = Pools.oneBlock();
        for (int file = 1; file < 4; file++) {
            int f = file;
            Check.due(0, () -> x.checksum(f));
            Check.due(Check.NO_ELEMENT, () -> x.nodePlace(f, 0));
            Check.due(Check.NO_ELEMENT, () -> x.nodePlace(f, 1));
            Check.due(Check.NO_ELEMENT, () -> x.nextData(f, 0));
            Check.due(0, () -> x.nextHole(f, 0));
        }
        Check.due(100, () -> x.nodePlace(0, 0));
    }

    /** The node stays as long as one block is there, and goes with it. */
    private static void lastBlockOfAFile() {
        Check.promise("Terms: the pointer of a file is missing if all its blocks are holes");
        for (int last : new int[] {0, 5, 11}) {
            Zfsmill x = Pools.allBlocks();
            for (int block = 0; block < 12; block++) {
                if (block != last) {
                    x.punch(1, block, block);
                }
            }
            Check.due(4, x::sync);
            Check.due(false, () -> x.checksum(1) == 0);
            Check.due(101 + last, () -> x.read(1, last));
            Check.due(last, () -> x.nextData(1, 0));
            x.punch(1, last, last);
            Check.due(2, x::sync);
            Check.due(0, () -> x.checksum(1));
            Check.due(Check.NO_ELEMENT, () -> x.nodePlace(1, 0));
            Check.due(0, () -> x.places(1, last));
            Check.due(Check.NO_ELEMENT, () -> x.nextData(1, 0));
            Check.due(0, () -> x.read(1, last));
            Check.due(false, () -> x.checksum(0) == 0);
            Check.due(12, () -> x.read(0, 11));
        }
    }

    private static void poolOfHolesHasNoRootNode() {
        Check.promise("Terms: the pool has no root node if all files are without nodes");
        Zfsmill x = Pools.oneBlock();
        x.write(3, 11, 6);
        x.sync();
        x.punch(0, 0, 11);
        Check.due(2, x::sync);
        Check.due(false, () -> x.rootChecksum() == 0);
        x.punch(3, 0, 11);
        Check.due(0, x::sync);
        Check.due(0, x::rootChecksum);
        Check.due(Check.NO_ELEMENT, () -> x.rootPlace(0));
        Check.due(Check.NO_ELEMENT, () -> x.rootPlace(1));
        Check.due(120, () -> x.free(0) + x.free(1) + x.free(2));
        Check.due(0, () -> x.read(3, 11));
        Check.due(0, x::lost);
        Check.due(0, x::scrub);
        // It begins anew as at first, but for the number of the group.
        x.write(0, 0, 5);
        Check.due(5, x::sync);
        Check.due(0, () -> x.place(0, 0, 0));
        Check.due(5, () -> x.birth(0, 0));
    }

    private static void punchOfHolesIsBuffered() {
        Check.promise("3 punch, also for those that are holes");
        Zfsmill x = new Zfsmill();
        Check.due(0, () -> x.punch(0, 0, 11));
        Check.due(12, x::buffered);
        Check.due(0, () -> x.punch(0, 3, 5));
        Check.due(12, x::buffered);
        Check.due(0, () -> x.punch(3, 11, 11));
        Check.due(13, x::buffered);
        x.write(0, 4, 1);
        Check.due(1, () -> x.punch(0, 4, 4));
        Check.due(0, () -> x.punch(0, 4, 4));
        Check.due(13, x::buffered);
        Check.due(13, x::abandon);
    }

    private static void punchOfHolesInAFileWithANode() {
        Check.promise("8 sync, holes over holes are buffered changes");
        Zfsmill x = Pools.oneBlock();
        x.punch(0, 11, 11);
        Check.due(4, x::sync);
        Check.due(0, () -> x.place(0, 0, 0));
        Check.due(1, () -> x.birth(0, 0));
        Check.due(201, () -> x.nodePlace(0, 0));
        Check.due(2, () -> x.nodePlace(0, 1));
        Check.due(102, () -> x.rootPlace(0));
        Check.due(202, () -> x.rootPlace(1));
    }

    private static void punchOfHolesInAPoolWithoutNodes() {
        Check.promise("8 sync, holes over holes and no node");
        Zfsmill x = new Zfsmill();
        for (int file = 0; file < 4; file++) {
            x.punch(file, 0, 11);
        }
        Check.due(48, x::buffered);
        Check.due(0, x::sync);
        Check.due(0, x::buffered);
        Check.due(2, x::group);
        Check.due(0, x::rootChecksum);
        Check.due(Check.NO_ELEMENT, () -> x.rootPlace(0));
        Check.due(120, () -> x.free(0) + x.free(1) + x.free(2));
    }

    /** A file without a node gets none, and the root node is written for the other one. */
    private static void punchOfHolesBesideAnotherFile() {
        Check.promise("8 sync, holes over holes in a file without a node");
        Zfsmill x = Pools.oneBlock();
        int sum = x.rootChecksum();
        x.punch(1, 0, 0);
        Check.due(2, x::sync);
        Check.due(0, () -> x.checksum(1));
        Check.due(Check.NO_ELEMENT, () -> x.nodePlace(1, 0));
        Check.due(100, () -> x.nodePlace(0, 0));
        Check.due(201, () -> x.rootPlace(0));
        Check.due(2, () -> x.rootPlace(1));
        Check.due(sum, x::rootChecksum);
    }

    private static void bufferedHoleHidesWhatIsSynced() {
        Check.promise("Terms: the value of a block is its buffered value (or hole)");
        Zfsmill x = Pools.oneBlock();
        Check.due(1, () -> x.punch(0, 0, 0));
        Check.due(0, () -> x.read(0, 0));
        Check.due(0, () -> x.nextHole(0, 0));
        Check.due(Check.NO_ELEMENT, () -> x.nextData(0, 0));
        Check.due(0, () -> x.punch(0, 0, 0));
        Check.due(1, () -> x.places(0, 0));
        Check.due(0, () -> x.write(0, 0, 6));
        Check.due(6, () -> x.read(0, 0));
        Check.due(0, () -> x.nextData(0, 0));
        Check.due(1, () -> x.nextHole(0, 0));
        x.punch(0, 0, 0);
        Check.due(1, x::abandon);
        Check.due(5, () -> x.read(0, 0));
    }

    /** As long as nothing is synced, changes are in no cell. */
    private static void bufferedValueFillsAHole() {
        Check.promise("Terms: as long as nothing is synced, they are in no cell");
        Zfsmill x = new Zfsmill();
        x.setCopies(2, 2);
        Check.due(0, () -> x.write(2, 11, 9999));
        Check.due(9999, () -> x.read(2, 11));
        Check.due(11, () -> x.nextData(2, 0));
        Check.due(12, () -> x.nextHole(2, 11));
        Check.due(0, () -> x.places(2, 11));
        Check.due(0, () -> x.birth(2, 11));
        Check.due(0, () -> x.checksum(2));
        Check.due(0, x::rootChecksum);
        Check.due(120, () -> x.free(0) + x.free(1) + x.free(2));
        Check.due(Check.BAD_STATE, () -> x.spoil(0, 0, 0));
        Check.due(0, x::lost);
        Check.due(0, x::scrub);
        x.offline(0, 0);
        Check.due(0, () -> x.online(0, 0));
    }

    private static void noBlockIsAHole() {
        Check.promise("7 nextHole, 12 if none of them is a hole");
        Zfsmill x = Pools.allBlocks();
        for (int block = 0; block < 12; block++) {
            int b = block;
            Check.due(12, () -> x.nextHole(0, b));
            Check.due(b, () -> x.nextData(0, b));
        }
        x.punch(0, 10, 10);
        Check.due(10, () -> x.nextHole(0, 0));
        Check.due(10, () -> x.nextHole(0, 10));
        Check.due(12, () -> x.nextHole(0, 11));
        Check.due(11, () -> x.nextData(0, 10));
    }

    private static void emptyBufferSyncs() {
        Check.promise("8 sync, nothing is buffered");
        Zfsmill x = Pools.oneBlock();
        int sum = x.rootChecksum();
        Pools.spoilBothSides(x, 0);
        Pools.spoil(x, 100, 1);
        Check.due(0, x::sync);
        Check.due(3, x::group);
        Check.due(0, x::buffered);
        Check.due(0, () -> x.place(0, 0, 0));
        Check.due(100, () -> x.nodePlace(0, 0));
        Check.due(1, () -> x.rootPlace(0));
        Check.due(101, () -> x.rootPlace(1));
        Check.due(1, () -> x.birth(0, 0));
        Check.due(sum, x::rootChecksum);
        Check.due(true, () -> Pools.isSpoilt(x, 0, 0));
        Check.due(true, () -> Pools.isSpoilt(x, 0, 1));
        Check.due(true, () -> Pools.isSpoilt(x, 100, 1));
        Check.due(1, x::lost);
        Check.due(38, () -> x.free(0));
        x.write(0, 1, 6);
        x.sync();
        Check.due(3, () -> x.birth(0, 1));
    }

    private static void emptyBufferOfAnEmptyPoolSyncs() {
        Check.promise("8 sync, nothing is buffered in an empty pool");
        Zfsmill x = new Zfsmill();
        for (int group = 1; group < 10; group++) {
            int g = group;
            Check.due(g, x::group);
            Check.due(0, x::sync);
        }
        Check.due(0, x::rootChecksum);
        Check.due(Check.NO_ELEMENT, () -> x.rootPlace(0));
        Check.due(40, () -> x.free(0));
        x.write(0, 0, 5);
        Check.due(5, x::sync);
        Check.due(10, () -> x.birth(0, 0));
    }

    private static void emptyBufferIsAbandoned() {
        Check.promise("9 abandon, nothing is buffered");
        Zfsmill x = new Zfsmill();
        Check.due(0, x::abandon);
        Check.due(1, x::group);
        x.write(0, 0, 5);
        x.sync();
        Check.due(0, x::abandon);
        Check.due(2, x::group);
        Check.due(5, () -> x.read(0, 0));
        x.punch(0, 0, 11);
        Check.due(12, x::abandon);
        Check.due(0, x::abandon);
        Check.due(5, () -> x.read(0, 0));
    }

    private static void copiesAloneAreNoChange() {
        Check.promise("8 sync, the number of copies alone is no buffered change");
        Zfsmill x = Pools.oneBlock();
        Check.due(1, () -> x.setCopies(0, 2));
        Check.due(0, x::buffered);
        Check.due(0, x::sync);
        Check.due(1, () -> x.places(0, 0));
        Check.due(100, () -> x.nodePlace(0, 0));
        // What is written beside it does not write it anew either.
        x.write(0, 1, 6);
        Check.due(6, x::sync);
        Check.due(1, () -> x.places(0, 0));
        Check.due(1, () -> x.birth(0, 0));
        Check.due(2, () -> x.places(0, 1));
        Check.due(0, x::abandon);
        Check.due(2, () -> x.setCopies(0, 2));
    }

    private static void abandonedChangesAreNoChange() {
        Check.promise("9 abandon, drops all buffered changes");
        Zfsmill x = Pools.oneBlock();
        x.write(0, 0, 6);
        x.write(1, 0, 6);
        x.punch(3, 0, 11);
        Check.due(14, x::abandon);
        Check.due(0, x::sync);
        Check.due(1, () -> x.rootPlace(0));
        Check.due(5, () -> x.read(0, 0));
        Check.due(0, () -> x.read(1, 0));
        Check.due(1, () -> x.birth(0, 0));
        Check.due(3, x::group);
    }

    private static void sameValueIsAChange() {
        Check.promise("2 write, the value that is there");
        Zfsmill x = Pools.oneBlock();
        Check.due(5, () -> x.write(0, 0, 5));
        Check.due(1, x::buffered);
        Check.due(5, x::sync);
        Check.due(2, () -> x.birth(0, 0));
        Check.due(201, () -> x.place(0, 0, 0));
    }

    private static void emptyPoolHasNothing() {
        Check.promise("an empty pool");
        Zfsmill x = new Zfsmill();
        Check.due(0, x::scrub);
        Check.due(0, x::lost);
        Check.due(0, x::healed);
        Check.due(0, () -> x.read(3, 11));
        Check.due(0, () -> x.places(3, 11));
        Check.due(0, () -> x.birth(3, 11));
        Check.due(0, () -> x.checksum(3));
        Check.due(0, x::rootChecksum);
        for (int mirror = 0; mirror < 3; mirror++) {
            int m = mirror;
            x.offline(m, 1);
            Check.due(0, () -> x.online(m, 1));
            Check.due(false, () -> x.isSpoilt(m, 1, 39));
        }
    }
}
