/** Pools that several tests begin with, made in so few calls that most of the 512 are left. */
final class Pools {
    private Pools() {
    }

    /** One block: it lies at 0, its node at 100 and 200, the root node at 1 and 101. */
    static Zfsmill oneBlock() {
        Zfsmill x = new Zfsmill();
        x.write(0, 0, 5);
        Check.due(5, x::sync);
        Check.due(0, () -> x.place(0, 0, 0));
        Check.due(100, () -> x.nodePlace(0, 0));
        Check.due(200, () -> x.nodePlace(0, 1));
        Check.due(1, () -> x.rootPlace(0));
        Check.due(101, () -> x.rootPlace(1));
        return x;
    }

    /** All 48 blocks with two copies take 106 of the 120 cells; free are 4, 5 and 5. */
    static Zfsmill allBlocks() {
        Zfsmill x = new Zfsmill();
        for (int file = 0; file < 4; file++) {
            x.setCopies(file, 2);
            for (int block = 0; block < 12; block++) {
                x.write(file, block, 100 * file + block + 1);
            }
        }
        Check.due(106, x::sync);
        return x;
    }

    /** All 48 blocks, and the cells 0 and 39 of each mirror are in use. */
    static Zfsmill firstAndLastCells() {
        Zfsmill x = allBlocks();
        for (int block = 0; block < 5; block++) {
            x.write(3, block, 7);
        }
        Check.due(14, x::sync);
        for (int mirror = 0; mirror < 3; mirror++) {
            int m = mirror;
            Check.due(false, () -> x.isFree(m, 0));
            Check.due(false, () -> x.isFree(m, 39));
        }
        return x;
    }

    /**
     * All 48 blocks; free are 0, 7 and 7 cells. The second sync takes nearly all free cells, and
     * what it frees lies on the mirrors 1 and 2 alone.
     */
    static Zfsmill fullMirror0() {
        Zfsmill x = allBlocks();
        x.write(1, 9, 7);
        x.write(1, 11, 7);
        Check.due(8, x::sync);
        for (int block = 0; block < 12; block += 3) {
            x.write(2, block, 7);
        }
        Check.due(12, x::sync);
        Check.due(0, () -> x.free(0));
        return x;
    }

    /**
     * Free are 20, 9 and 9 cells, so that at most 18 second places are found beside a first one.
     * The blocks of all files that had a place on mirror 0 are written anew, the first 12 of them
     * with one copy and then punched, while other cells are taken.
     */
    static Zfsmill skewed() {
        Zfsmill x = allBlocks();
        for (int nth = 0; nth < 48; nth++) {
            if (wasOnMirror0(nth)) {
                x.punch(nth / 12, nth % 12, nth % 12);
            }
        }
        x.sync();
        writeThoseOnMirror0(x, 0, 12, 1);
        writeThoseOnMirror0(x, 12, 32, 2);
        int seen = 0;
        for (int nth = 0; nth < 48 && seen < 12; nth++) {
            if (wasOnMirror0(nth)) {
                x.punch(nth / 12, nth % 12, nth % 12);
                seen++;
            }
        }
        x.sync();
        Check.due(20, () -> x.free(0));
        Check.due(9, () -> x.free(1));
        Check.due(9, () -> x.free(2));
        return x;
    }

    /** The pairs of places went in turn to the mirrors 0 and 1, 2 and 0, 1 and 2; 13 to a file. */
    private static boolean wasOnMirror0(int nth) {
        return (nth + nth / 12) % 3 != 2;
    }

    private static void writeThoseOnMirror0(Zfsmill x, int from, int to, int copies) {
        for (int file = 0; file < 4; file++) {
            x.setCopies(file, copies);
        }
        int seen = 0;
        for (int nth = 0; nth < 48; nth++) {
            if (wasOnMirror0(nth)) {
                if (seen >= from && seen < to) {
                    x.write(nth / 12, nth % 12, 5);
                }
                seen++;
            }
        }
        x.sync();
    }

    /** Cells spoilt and healed, two sides away since different groups, and changes buffered. */
    static Zfsmill busy() {
        Zfsmill x = new Zfsmill();
        x.setCopies(1, 2);
        for (int file : new int[] {0, 1, 3}) {
            x.write(file, 0, 10 + file);
            x.write(file, 11, 20 + file);
        }
        x.sync();
        spoil(x, x.place(0, 0, 0), 1);
        x.offline(0, 1);
        x.write(1, 1, 6);
        x.sync();
        x.offline(2, 0);
        x.write(3, 5, 7);
        x.sync();
        spoil(x, x.rootPlace(0), x.rootPlace(0) < 200 ? 0 : 1);
        Check.due(20, () -> x.read(0, 11));
        Check.due(1, x::healed);
        for (int mirror = 0; mirror < 3; mirror++) {
            int online = mirror == 2 ? 1 : 0;
            for (int cell = 1; cell < 5; cell++) {
                if (!x.isFree(mirror, cell)) {
                    x.spoil(mirror, online, cell);
                }
            }
        }
        x.write(0, 0, 8);
        x.punch(1, 10, 11);
        x.setCopies(2, 2);
        return x;
    }

    static void spoil(Zfsmill x, int place, int side) {
        x.spoil(place / 100, side, place % 100);
    }

    static void spoilBothSides(Zfsmill x, int place) {
        spoil(x, place, 0);
        spoil(x, place, 1);
    }

    static boolean isSpoilt(Zfsmill x, int place, int side) {
        return x.isSpoilt(place / 100, side, place % 100);
    }
}
