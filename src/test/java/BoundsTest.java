/**
 * Each parameter of each call: its least and its greatest value are taken; one below, one above
 * and the ends of int are refused, whatever the other parameters are, and change nothing.
 */
public final class BoundsTest {
    private interface Call {
        Object on(Zfsmill x, int[] with);
    }

    private static final int[] FILE = {0, 3};
    private static final int[] BLOCK = {0, 11};
    private static final int[] VALUE = {1, 9999};
    private static final int[] COPIES = {1, 2};
    private static final int[] MIRROR = {0, 2};
    private static final int[] SIDE = {0, 1};
    private static final int[] CELL = {0, 39};

    public static void main(String[] args) {
        outsideOfFiles();
        outsideOfSidesAndCells();
        outsideOfPointers();
        outsideOfPunch();
        writeAtTheEnds();
        punchAtTheEnds();
        setCopiesAtTheEnds();
        readAtTheEnds();
        nextDataAndNextHoleAtTheEnds();
        offlineAndOnlineAtTheEnds();
        spoilAndIsSpoiltAtTheEnds();
        isFreeAndFreeAtTheEnds();
        pointersAtTheEnds();
        Check.end();
    }

    // What lies outside of a range

    private static void outsideOfFiles() {
        outside("2 write", (x, w) -> x.write(w[0], w[1], w[2]), FILE, BLOCK, VALUE);
        outside("4 setCopies", (x, w) -> x.setCopies(w[0], w[1]), FILE, COPIES);
        outside("5 read", (x, w) -> x.read(w[0], w[1]), FILE, BLOCK);
        outside("6 nextData", (x, w) -> x.nextData(w[0], w[1]), FILE, BLOCK);
        outside("7 nextHole", (x, w) -> x.nextHole(w[0], w[1]), FILE, BLOCK);
    }

    private static void outsideOfSidesAndCells() {
        outside("12 offline", (x, w) -> {
            x.offline(w[0], w[1]);
            return null;
        }, MIRROR, SIDE);
        outside("13 online", (x, w) -> x.online(w[0], w[1]), MIRROR, SIDE);
        outside("14 spoil", (x, w) -> x.spoil(w[0], w[1], w[2]), MIRROR, SIDE, CELL);
        outside("15 isSpoilt", (x, w) -> x.isSpoilt(w[0], w[1], w[2]), MIRROR, SIDE, CELL);
        outside("16 isFree", (x, w) -> x.isFree(w[0], w[1]), MIRROR, CELL);
        outside("17 free", (x, w) -> x.free(w[0]), MIRROR);
    }

    private static void outsideOfPointers() {
        outside("21 places", (x, w) -> x.places(w[0], w[1]), FILE, BLOCK);
        outside("22 place", (x, w) -> x.place(w[0], w[1], 0), FILE, BLOCK);
        outside("22 place", (x, w) -> x.place(w[0], w[1], 1), FILE, BLOCK);
        outside("23 nodePlace", (x, w) -> x.nodePlace(w[0], 0), FILE);
        outside("23 nodePlace", (x, w) -> x.nodePlace(w[0], 1), FILE);
        outside("25 birth", (x, w) -> x.birth(w[0], w[1]), FILE, BLOCK);
        outside("26 checksum", (x, w) -> x.checksum(w[0]), FILE);
    }

    private static void outside(String promise, Call call, int[]... ranges) {
        Check.promise(promise);
        for (int wrong = 0; wrong < ranges.length; wrong++) {
            int[] range = ranges[wrong];
            int[] beyond = {range[0] - 1, range[1] + 1, Integer.MIN_VALUE, Integer.MAX_VALUE};
            for (int corner = 0; corner < 1 << ranges.length; corner++) {
                if ((corner >> wrong & 1) == 0) {
                    for (int value : beyond) {
                        int[] with = corner(corner, ranges);
                        with[wrong] = value;
                        refused(call, with);
                    }
                }
            }
        }
    }

    /** Each parameter at its least or its greatest value, after the bits of a number. */
    private static int[] corner(int number, int[]... ranges) {
        int[] with = new int[ranges.length];
        for (int at = 0; at < with.length; at++) {
            with[at] = ranges[at][number >> at & 1];
        }
        return with;
    }

    private static void refused(Call call, int... with) {
        Twins.refused(Check.BAD_ARGUMENT, Pools::busy, x -> call.on(x, with));
        Twins.refused(Check.BAD_ARGUMENT, Pools::firstAndLastCells, x -> call.on(x, with));
    }

    /** The last block has the first one as its least value. */
    private static void outsideOfPunch() {
        Check.promise("3 punch");
        Call punch = (x, w) -> x.punch(w[0], w[1], w[2]);
        for (int file : new int[] {-1, 4, Integer.MIN_VALUE, Integer.MAX_VALUE}) {
            refused(punch, file, 0, 0);
            refused(punch, file, 0, 11);
            refused(punch, file, 11, 11);
        }
        for (int file : FILE) {
            for (int from : new int[] {-1, Integer.MIN_VALUE}) {
                refused(punch, file, from, from);
                refused(punch, file, from, 0);
                refused(punch, file, from, 11);
            }
            for (int from : new int[] {12, Integer.MAX_VALUE}) {
                refused(punch, file, from, from);
                refused(punch, file, from, 11);
                refused(punch, file, from, 0);
            }
            for (int from = 0; from < 12; from++) {
                refused(punch, file, from, from - 1);
                refused(punch, file, from, 12);
            }
            refused(punch, file, 11, 0);
            refused(punch, file, 0, Integer.MIN_VALUE);
            refused(punch, file, 11, Integer.MAX_VALUE);
        }
    }

    // The ends of each range

    private static void writeAtTheEnds() {
        Check.promise("2 write");
        Zfsmill x = new Zfsmill();
        for (int corner = 0; corner < 8; corner++) {
            int[] w = corner(corner, FILE, BLOCK, VALUE);
            Check.due(corner < 4 ? 0 : 1, () -> x.write(w[0], w[1], w[2]));
            Check.due(w[2], () -> x.read(w[0], w[1]));
        }
        Check.due(4, x::buffered);
        x.sync();
        for (int corner = 0; corner < 4; corner++) {
            int[] w = corner(corner, FILE, BLOCK);
            Check.due(9999, () -> x.read(w[0], w[1]));
        }
        Check.due(0, () -> x.read(0, 1));
        Check.due(0, () -> x.read(3, 10));
        Check.due(0, () -> x.read(1, 0));
        Check.due(0, () -> x.read(2, 11));
    }

    private static void punchAtTheEnds() {
        Check.promise("3 punch");
        for (int file : FILE) {
            Zfsmill x = Pools.allBlocks();
            Check.due(1, () -> x.punch(file, 0, 0));
            Check.due(1, () -> x.punch(file, 11, 11));
            Check.due(2, x::buffered);
            Check.due(1, () -> x.nextData(file, 0));
            Check.due(11, () -> x.nextHole(file, 1));
            Check.due(10, () -> x.punch(file, 0, 11));
            Check.due(12, x::buffered);
            Check.due(Check.NO_ELEMENT, () -> x.nextData(file, 0));
            Check.due(12, () -> x.nextHole(3 - file, 0));
        }
    }

    private static void setCopiesAtTheEnds() {
        Check.promise("4 setCopies");
        Zfsmill x = new Zfsmill();
        for (int file : FILE) {
            Check.due(1, () -> x.setCopies(file, 1));
            Check.due(1, () -> x.setCopies(file, 2));
            Check.due(2, () -> x.setCopies(file, 1));
            Check.due(1, () -> x.setCopies(file, 2));
        }
        for (int file = 0; file < 4; file++) {
            x.write(file, 3, 3);
        }
        x.sync();
        for (int file = 0; file < 4; file++) {
            int f = file;
            Check.due(file == 0 || file == 3 ? 2 : 1, () -> x.places(f, 3));
        }
    }

    private static void readAtTheEnds() {
        Check.promise("5 read");
        Zfsmill x = Pools.allBlocks();
        for (int corner = 0; corner < 4; corner++) {
            int[] w = corner(corner, FILE, BLOCK);
            Check.due(100 * w[0] + w[1] + 1, () -> x.read(w[0], w[1]));
        }
    }

    private static void nextDataAndNextHoleAtTheEnds() {
        Zfsmill x = Pools.allBlocks();
        for (int corner = 0; corner < 4; corner++) {
            int[] w = corner(corner, FILE, BLOCK);
            Check.promise("6 nextData");
            Check.due(w[1], () -> x.nextData(w[0], w[1]));
            Check.promise("7 nextHole");
            Check.due(12, () -> x.nextHole(w[0], w[1]));
        }
        for (int file : FILE) {
            x.punch(file, 0, 11);
            for (int block : BLOCK) {
                Check.promise("6 nextData");
                Check.due(Check.NO_ELEMENT, () -> x.nextData(file, block));
                Check.promise("7 nextHole");
                Check.due(block, () -> x.nextHole(file, block));
            }
        }
    }

    private static void offlineAndOnlineAtTheEnds() {
        for (int corner = 0; corner < 4; corner++) {
            int[] w = corner(corner, MIRROR, SIDE);
            Zfsmill x = Pools.oneBlock();
            Check.promise("12 offline");
            Check.dueOf(null, () -> x.offline(w[0], w[1]));
            for (int nth = 0; nth < 6; nth++) {
                int mirror = nth / 2;
                int side = nth % 2;
                Object due = mirror == w[0] && side == w[1] ? Check.BAD_STATE : false;
                Check.due(due, () -> x.isSpoilt(mirror, side, 0));
            }
            Check.promise("13 online");
            Check.due(0, () -> x.online(w[0], w[1]));
            Check.due(false, () -> x.isSpoilt(w[0], w[1], 0));
        }
    }

    private static void spoilAndIsSpoiltAtTheEnds() {
        for (int corner = 0; corner < 8; corner++) {
            int[] w = corner(corner, MIRROR, SIDE, CELL);
            Zfsmill x = Pools.firstAndLastCells();
            Check.promise("14 spoil");
            Check.due(true, () -> x.spoil(w[0], w[1], w[2]));
            Check.promise("15 isSpoilt");
            for (int nth = 0; nth < 240; nth++) {
                int mirror = nth / 80;
                int side = nth / 40 % 2;
                int cell = nth % 40;
                boolean due = mirror == w[0] && side == w[1] && cell == w[2];
                Check.due(due, () -> x.isSpoilt(mirror, side, cell));
            }
        }
    }

    private static void isFreeAndFreeAtTheEnds() {
        Zfsmill empty = new Zfsmill();
        Zfsmill full = Pools.firstAndLastCells();
        for (int mirror : MIRROR) {
            Check.promise("16 isFree");
            for (int cell : CELL) {
                Check.due(true, () -> empty.isFree(mirror, cell));
                Check.due(false, () -> full.isFree(mirror, cell));
            }
            Check.promise("17 free");
            Check.due(40, () -> empty.free(mirror));
        }
        Check.due(14, () -> full.free(0) + full.free(1) + full.free(2));
    }

    /** Of the 52 pairs of places of blocks and nodes, 13 to a file, this is the first mirror. */
    private static int firstMirror(int file, int block) {
        return new int[] {0, 2, 1}[(13 * file + block) % 3];
    }

    private static void pointersAtTheEnds() {
        Zfsmill x = Pools.allBlocks();
        for (int corner = 0; corner < 4; corner++) {
            int[] w = corner(corner, FILE, BLOCK);
            int first = firstMirror(w[0], w[1]);
            int second = new int[] {1, 2, 0}[first];
            Check.promise("21 places");
            Check.due(2, () -> x.places(w[0], w[1]));
            Check.promise("22 place");
            Check.due(first, () -> x.place(w[0], w[1], 0) / 100);
            Check.due(second, () -> x.place(w[0], w[1], 1) / 100);
            Check.promise("25 birth");
            Check.due(1, () -> x.birth(w[0], w[1]));
        }
        Check.promise("23 nodePlace");
        Check.due(firstMirror(0, 12), () -> x.nodePlace(0, 0) / 100);
        Check.due(firstMirror(3, 12), () -> x.nodePlace(3, 0) / 100);
        Check.promise("24 rootPlace");
        Check.due(234, () -> x.rootPlace(0));
        Check.due(35, () -> x.rootPlace(1));
        Check.promise("26 checksum");
        Check.due(nodeSum(0), () -> x.checksum(0));
        Check.due(nodeSum(3), () -> x.checksum(3));
    }

    private static int nodeSum(int file) {
        int sum = 1;
        for (int block = 0; block < 12; block++) {
            sum = (131 * sum + 31 * (100 * file + block + 1) + 17 + 1) % 65521;
        }
        return sum;
    }
}
