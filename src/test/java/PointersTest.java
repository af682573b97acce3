/** Promises 21 to 27. */
public final class PointersTest {
    public static void main(String[] args) {
        places();
        place();
        nodePlace();
        rootPlace();
        birth();
        checksum();
        rootChecksum();
        outOfRange();
        placesThatAreNone();
        Check.end();
    }

    /** Block 0 of file 0 with one place, block 11 of file 3 with two. */
    private static Zfsmill twoFiles() {
        Zfsmill x = new Zfsmill();
        x.setCopies(3, 2);
        x.write(0, 0, 5);
        x.write(3, 11, 9999);
        x.sync();
        return x;
    }

    private static void places() {
        Check.promise("21 places");
        Zfsmill x = twoFiles();
        Check.due(1, () -> x.places(0, 0));
        Check.due(2, () -> x.places(3, 11));
        Check.due(0, () -> x.places(0, 1));
        Check.due(0, () -> x.places(3, 0));
        x.punch(0, 0, 0);
        x.write(0, 1, 4);
        Check.due(1, () -> x.places(0, 0));
        Check.due(0, () -> x.places(0, 1));
        x.sync();
        Check.due(0, () -> x.places(0, 0));
        Check.due(1, () -> x.places(0, 1));
    }

    private static void place() {
        Check.promise("22 place");
        Zfsmill x = twoFiles();
        // 40 40 40, by the block 39 40 40, by its node 39 39 39, by the block 38 38 39, by its
        // node 37 38 38, by the root node 37 37 37.
        Check.due(0, () -> x.place(0, 0, 0));
        Check.due(Check.NO_ELEMENT, () -> x.place(0, 0, 1));
        Check.due(1, () -> x.place(3, 11, 0));
        Check.due(101, () -> x.place(3, 11, 1));
        Check.due(Check.NO_ELEMENT, () -> x.place(3, 11, 2));
        Check.due(Check.NO_ELEMENT, () -> x.place(3, 10, 0));
        x.punch(0, 0, 0);
        Check.due(0, () -> x.place(0, 0, 0));
        x.sync();
        Check.due(Check.NO_ELEMENT, () -> x.place(0, 0, 0));
        Check.due(101, () -> x.place(3, 11, 1));
    }

    private static void nodePlace() {
        Check.promise("23 nodePlace");
        Zfsmill x = twoFiles();
        Check.due(100, () -> x.nodePlace(0, 0));
        Check.due(200, () -> x.nodePlace(0, 1));
        Check.due(201, () -> x.nodePlace(3, 0));
        Check.due(2, () -> x.nodePlace(3, 1));
        Check.due(Check.NO_ELEMENT, () -> x.nodePlace(0, 2));
        Check.due(Check.NO_ELEMENT, () -> x.nodePlace(1, 0));
        x.punch(0, 0, 0);
        Check.due(100, () -> x.nodePlace(0, 0));
        x.sync();
        Check.due(Check.NO_ELEMENT, () -> x.nodePlace(0, 0));
        Check.due(Check.NO_ELEMENT, () -> x.nodePlace(0, 1));
        Check.due(201, () -> x.nodePlace(3, 0));
    }

    private static void rootPlace() {
        Check.promise("24 rootPlace");
        Zfsmill x = twoFiles();
        Check.due(102, () -> x.rootPlace(0));
        Check.due(202, () -> x.rootPlace(1));
        Check.due(Check.NO_ELEMENT, () -> x.rootPlace(2));
        x.punch(0, 0, 0);
        x.sync();
        Check.due(3, () -> x.rootPlace(0));
        Check.due(103, () -> x.rootPlace(1));
        x.punch(3, 0, 11);
        x.sync();
        Check.due(Check.NO_ELEMENT, () -> x.rootPlace(0));
        Check.due(Check.NO_ELEMENT, () -> x.rootPlace(1));
    }

    private static void birth() {
        Check.promise("25 birth");
        Zfsmill x = twoFiles();
        x.sync();
        Check.due(1, () -> x.birth(0, 0));
        Check.due(1, () -> x.birth(3, 11));
        Check.due(0, () -> x.birth(3, 10));
        x.write(0, 0, 5);
        x.write(3, 10, 1);
        Check.due(1, () -> x.birth(0, 0));
        x.sync();
        Check.due(3, () -> x.birth(0, 0));
        Check.due(3, () -> x.birth(3, 10));
        Check.due(1, () -> x.birth(3, 11));
        x.punch(3, 11, 11);
        x.sync();
        Check.due(0, () -> x.birth(3, 11));
        Check.due(3, () -> x.birth(3, 10));
    }

    /** The checksum of a node after the document's words, of checksums and births in turn. */
    private static int nodeSum(long... pointers) {
        long sum = 1;
        for (int at = 0; at < pointers.length; at += 2) {
            sum = (sum * 131 + pointers[at] + pointers[at + 1]) % 65521;
        }
        return (int) sum;
    }

    private static long[] blocksWith(int block, long sum, long birth) {
        long[] pointers = new long[24];
        pointers[2 * block] = sum;
        pointers[2 * block + 1] = birth;
        return pointers;
    }

    private static void checksum() {
        Check.promise("26 checksum");
        Zfsmill x = twoFiles();
        // 31 * 5 + 17 = 172; 31 * 9999 + 17 = 309986, less 4 * 65521 is 47902.
        Check.due(nodeSum(blocksWith(0, 172, 1)), () -> x.checksum(0));
        Check.due(nodeSum(blocksWith(11, 47902, 1)), () -> x.checksum(3));
        Check.due(0, () -> x.checksum(1));
        x.spoil(1, 0, 0);
        x.spoil(1, 1, 0);
        x.write(0, 0, 5);
        Check.due(nodeSum(blocksWith(0, 172, 1)), () -> x.checksum(0));
        x.sync();
        Check.due(nodeSum(blocksWith(0, 172, 2)), () -> x.checksum(0));
        long[] two = blocksWith(0, 172, 2);
        two[14] = 48;
        two[15] = 3;
        x.write(0, 7, 1);
        x.sync();
        Check.due(nodeSum(two), () -> x.checksum(0));
        x.punch(0, 0, 11);
        x.sync();
        Check.due(0, () -> x.checksum(0));
        Check.due(nodeSum(blocksWith(11, 47902, 1)), () -> x.checksum(3));
    }

    private static void rootChecksum() {
        Check.promise("27 rootChecksum");
        Zfsmill x = twoFiles();
        long zero = nodeSum(blocksWith(0, 172, 1));
        long three = nodeSum(blocksWith(11, 47902, 1));
        Check.due(nodeSum(zero, 1, 0, 0, 0, 0, three, 1), x::rootChecksum);
        x.write(0, 0, 5);
        x.punch(1, 0, 0);
        Check.due(nodeSum(zero, 1, 0, 0, 0, 0, three, 1), x::rootChecksum);
        x.sync();
        long later = nodeSum(blocksWith(0, 172, 2));
        Check.due(nodeSum(later, 2, 0, 0, 0, 0, three, 1), x::rootChecksum);
        x.punch(0, 0, 0);
        x.sync();
        Check.due(nodeSum(0, 0, 0, 0, 0, 0, three, 1), x::rootChecksum);
        x.punch(3, 11, 11);
        x.sync();
        Check.due(0, x::rootChecksum);
    }

    private static void outOfRange() {
        Zfsmill x = twoFiles();
        int[][] wrong = {
            {-1, 0}, {4, 0}, {0, -1}, {0, 12}, {Integer.MIN_VALUE, 0}, {Integer.MAX_VALUE, 0},
            {0, Integer.MIN_VALUE}, {0, Integer.MAX_VALUE}, {-1, 12}, {1, -12}, {4, -1},
        };
        for (int[] w : wrong) {
            Check.promise("21 places");
            Check.due(Check.BAD_ARGUMENT, () -> x.places(w[0], w[1]));
            Check.promise("22 place");
            Check.due(Check.BAD_ARGUMENT, () -> x.place(w[0], w[1], 0));
            Check.due(Check.BAD_ARGUMENT, () -> x.place(w[0], w[1], 2));
            Check.promise("25 birth");
            Check.due(Check.BAD_ARGUMENT, () -> x.birth(w[0], w[1]));
        }
        for (int file : new int[] {-1, 4, Integer.MIN_VALUE, Integer.MAX_VALUE}) {
            Check.promise("23 nodePlace");
            Check.due(Check.BAD_ARGUMENT, () -> x.nodePlace(file, 0));
            Check.due(Check.BAD_ARGUMENT, () -> x.nodePlace(file, 2));
            Check.promise("26 checksum");
            Check.due(Check.BAD_ARGUMENT, () -> x.checksum(file));
        }
    }

    private static void placesThatAreNone() {
        Zfsmill x = twoFiles();
        for (int place : new int[] {-1, 2, 3, Integer.MIN_VALUE, Integer.MAX_VALUE}) {
            Check.promise("22 place");
            Check.due(Check.NO_ELEMENT, () -> x.place(3, 11, place));
            Check.due(Check.NO_ELEMENT, () -> x.place(0, 0, place));
            Check.promise("23 nodePlace");
            Check.due(Check.NO_ELEMENT, () -> x.nodePlace(3, place));
            Check.promise("24 rootPlace");
            Check.due(Check.NO_ELEMENT, () -> x.rootPlace(place));
        }
    }
}
