/** Promises 26 and 27: checksums at and about the remainder by 65521. */
public final class RemainderTest {
    public static void main(String[] args) {
        remainderOfABlock();
        missingPointersCountZero();
        blocksCountInAscendingOrder();
        greatestSumOfAllBlocks();
        checksumsThatAreZero();
        rootChecksumThatIsZero();
        birthsCount();
        pointerToTheRootIsAlwaysRight();
        Check.end();
    }

    /** One block alone: the node after the document's words, all in long. */
    private static int nodeOf(int block, int value, int birth) {
        long sum = 1;
        for (int each = 0; each < 12; each++) {
            sum *= 131;
            if (each == block) {
                sum += (31L * value + 17) % 65521 + birth;
            }
            sum %= 65521;
        }
        return (int) sum;
    }

    private static int rootOf(int... sumsAndBirths) {
        long sum = 1;
        for (int at = 0; at < 8; at += 2) {
            sum = (sum * 131 + sumsAndBirths[at] + sumsAndBirths[at + 1]) % 65521;
        }
        return (int) sum;
    }

    /** 31 times 2113 plus 17 is 65520; one more wraps to 30, and 9999 has wrapped four times. */
    private static void remainderOfABlock() {
        Check.promise("26 checksum, as a remainder by 65521");
        for (int value : new int[] {1, 2, 2113, 2114, 4227, 4228, 6340, 6341, 8454, 8455, 9999}) {
            for (int block : new int[] {0, 10, 11}) {
                Zfsmill x = new Zfsmill();
                x.write(1, block, value);
                x.sync();
                int sum = nodeOf(block, value, 1);
                Check.due(sum, () -> x.checksum(1));
                Check.due(rootOf(0, 0, sum, 1, 0, 0, 0, 0), x::rootChecksum);
            }
        }
    }

    private static void missingPointersCountZero() {
        Check.promise("26 checksum, 0 each if it is missing");
        Zfsmill x = Pools.oneBlock();
        x.write(0, 1, 6);
        x.sync();
        x.punch(0, 0, 0);
        x.sync();
        Check.due(nodeOf(1, 6, 2), () -> x.checksum(0));
        Check.due(rootOf(nodeOf(1, 6, 2), 3, 0, 0, 0, 0, 0, 0), x::rootChecksum);
        x.write(3, 11, 9);
        x.sync();
        x.punch(0, 0, 11);
        x.sync();
        Check.due(0, () -> x.checksum(0));
        Check.due(nodeOf(11, 9, 4), () -> x.checksum(3));
        Check.due(rootOf(0, 0, 0, 0, 0, 0, nodeOf(11, 9, 4), 4), x::rootChecksum);
    }

    private static void blocksCountInAscendingOrder() {
        Check.promise("26 checksum, in ascending order of files or blocks");
        int[] values = {3, 1, 4, 1, 5, 9, 2, 6, 5, 3, 5, 8};
        Zfsmill up = new Zfsmill();
        Zfsmill down = new Zfsmill();
        long sum = 1;
        for (int block = 0; block < 12; block++) {
            up.write(2, block, values[block]);
            down.write(2, 11 - block, values[11 - block]);
            sum = (sum * 131 + 31 * values[block] + 17 + 1) % 65521;
        }
        up.sync();
        down.sync();
        int due = (int) sum;
        Check.due(due, () -> up.checksum(2));
        Check.due(due, () -> down.checksum(2));
        Check.due(rootOf(0, 0, 0, 0, due, 1, 0, 0), up::rootChecksum);
        Check.due(up.rootChecksum(), down::rootChecksum);
    }

    /** All checksums of blocks at their greatest, and births above 100: no sum overflows. */
    private static void greatestSumOfAllBlocks() {
        Check.promise("26 checksum, all blocks at the greatest checksum");
        Zfsmill x = new Zfsmill();
        for (int group = 1; group < 200; group++) {
            x.sync();
        }
        for (int nth = 0; nth < 48; nth++) {
            x.write(nth / 12, nth % 12, 2113);
        }
        x.sync();
        long sum = 1;
        for (int block = 0; block < 12; block++) {
            sum = (sum * 131 + 65520 + 200) % 65521;
        }
        int due = (int) sum;
        for (int file = 0; file < 4; file++) {
            int f = file;
            Check.due(due, () -> x.checksum(f));
        }
        Check.due(rootOf(due, 200, due, 200, due, 200, due, 200), x::rootChecksum);
    }

    /** A checksum of 0 is not that of a missing pointer. */
    private static void checksumsThatAreZero() {
        Check.promise("26 checksum, 0 and not missing");
        int[][] cases = {{1, 3673}, {2, 9910}, {6, 8255}};
        for (int[] each : cases) {
            Check.due(0, () -> nodeOf(each[0], each[1], 1));
            for (int file = 0; file < 4; file++) {
                int f = file;
                Zfsmill x = new Zfsmill();
                x.write(f, each[0], each[1]);
                Check.due(5, x::sync);
                Check.due(0, () -> x.checksum(f));
                Check.due(100, () -> x.nodePlace(f, 0));
                Check.due(200, () -> x.nodePlace(f, 1));
                Check.due(each[1], () -> x.read(f, each[0]));
                int[] pointers = new int[8];
                pointers[2 * f + 1] = 1;
                Check.due(rootOf(pointers), x::rootChecksum);
                x.offline(1, 0);
                x.write(3 - f, 0, 1);
                x.sync();
                Check.due(each[1], () -> x.read(f, each[0]));
                Check.due(false, () -> x.isFree(1, 0));
                Check.due(0, x::lost);
            }
        }
        Check.due(65520, () -> nodeOf(1, 1567, 1));
        Zfsmill y = new Zfsmill();
        y.write(0, 1, 1567);
        y.sync();
        Check.due(65520, () -> y.checksum(0));
    }

    private static void rootChecksumThatIsZero() {
        Check.promise("27 rootChecksum, 0 and not missing");
        int[][] cases = {{1, 0, 1311}, {2, 1, 3860}, {0, 3, 4003}, {3, 3, 9698}};
        for (int[] each : cases) {
            Zfsmill x = new Zfsmill();
            x.write(each[0], each[1], each[2]);
            Check.due(5, x::sync);
            Check.due(0, x::rootChecksum);
            Check.due(1, () -> x.rootPlace(0));
            Check.due(101, () -> x.rootPlace(1));
            Check.due(each[2], () -> x.read(each[0], each[1]));
            Check.due(nodeOf(each[1], each[2], 1), () -> x.checksum(each[0]));
            Check.due(false, () -> x.isFree(0, 1));
            x.spoil(0, 0, 1);
            Check.due(1, x::scrub);
        }
    }

    /** The same blocks written in a later group have another checksum on the way up. */
    private static void birthsCount() {
        Check.promise("26 checksum, the checksum and the birth of the pointer are added");
        Zfsmill x = Pools.oneBlock();
        Check.due(nodeOf(0, 5, 1), () -> x.checksum(0));
        x.write(0, 0, 5);
        x.sync();
        Check.due(nodeOf(0, 5, 2), () -> x.checksum(0));
        // The node is written anew, but the birth of its block stays.
        x.punch(0, 11, 11);
        x.sync();
        Check.due(nodeOf(0, 5, 2), () -> x.checksum(0));
        Check.due(rootOf(nodeOf(0, 5, 2), 3, 0, 0, 0, 0, 0, 0), x::rootChecksum);
        // The root node is written anew, but the birth of its file stays.
        x.punch(1, 0, 0);
        x.sync();
        Check.due(rootOf(nodeOf(0, 5, 2), 3, 0, 0, 0, 0, 0, 0), x::rootChecksum);
    }

    private static void pointerToTheRootIsAlwaysRight() {
        Check.promise("Terms: the pointer to the root node is always right");
        Zfsmill x = Pools.oneBlock();
        int sum = x.rootChecksum();
        for (int place : new int[] {0, 100, 200, 1, 101}) {
            Pools.spoilBothSides(x, place);
        }
        Check.due(sum, x::rootChecksum);
        Check.due(1, () -> x.rootPlace(0));
        Check.due(101, () -> x.rootPlace(1));
        Check.due(nodeOf(0, 5, 1), () -> x.checksum(0));
        Check.due(100, () -> x.nodePlace(0, 0));
        Check.due(0, () -> x.place(0, 0, 0));
        Check.due(1, () -> x.birth(0, 0));
        // The next sync writes the way to a new block anew; the old block stays lost.
        x.write(0, 1, 6);
        Check.due(5, x::sync);
        Check.due(6, () -> x.read(0, 1));
        Check.due(Check.BAD_STATE, () -> x.read(0, 0));
        Check.due(1, x::lost);
    }
}
