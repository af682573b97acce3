/** Promises 2 to 7. */
public final class FilesTest {
    public static void main(String[] args) {
        write();
        writeOutOfRange();
        punch();
        punchOutOfRange();
        setCopies();
        setCopiesOutOfRange();
        readTellsWhatIsBuffered();
        readHealsUpToTheFirstGoodCell();
        readOfHolesLooksAsFarAsPointersGo();
        readThatFailsHealsNothing();
        readWithSidesOffline();
        readOutOfRange();
        nextData();
        nextHole();
        Check.end();
    }

    private static void spoilBothSides(Zfsmill x, int mirror, int cell) {
        x.spoil(mirror, 0, cell);
        x.spoil(mirror, 1, cell);
    }

    private static void write() {
        Check.promise("2 write");
        Zfsmill x = new Zfsmill();
        Check.due(0, () -> x.write(0, 0, 1));
        Check.due(1, () -> x.write(0, 0, 9999));
        Check.due(9999, () -> x.write(0, 0, 9999));
        Check.due(1, x::buffered);
        Check.due(0, () -> x.write(3, 11, 44));
        Check.due(0, () -> x.write(3, 10, 43));
        Check.due(3, x::buffered);
        Check.due(40, () -> x.free(0));
        x.sync();
        Check.due(44, () -> x.write(3, 11, 44));
        Check.due(1, x::buffered);
        x.punch(3, 10, 11);
        Check.due(0, () -> x.write(3, 11, 2));
        Check.due(2, () -> x.read(3, 11));
        Check.due(0, () -> x.read(3, 10));
        x.abandon();
        Check.due(43, () -> x.write(3, 10, 1));
        Check.due(9999, () -> x.read(0, 0));
    }

    private static void writeOutOfRange() {
        Check.promise("2 write");
        Zfsmill x = new Zfsmill();
        int[][] wrong = {
            {-1, 0, 1}, {4, 0, 1}, {0, -1, 1}, {0, 12, 1}, {0, 0, 0}, {0, 0, 10000}, {0, 0, -1},
            {Integer.MIN_VALUE, 0, 1}, {Integer.MAX_VALUE, 0, 1}, {0, Integer.MIN_VALUE, 1},
            {0, Integer.MAX_VALUE, 1}, {0, 0, Integer.MIN_VALUE}, {0, 0, Integer.MAX_VALUE},
            {-1, 12, 1}, {-1, -1, -1},
        };
        for (int[] w : wrong) {
            Check.due(Check.BAD_ARGUMENT, () -> x.write(w[0], w[1], w[2]));
            Check.due(0, x::buffered);
        }
    }

    private static void punch() {
        Check.promise("3 punch");
        Zfsmill x = new Zfsmill();
        x.write(2, 0, 1);
        x.write(2, 11, 2);
        x.write(2, 5, 3);
        x.write(1, 5, 4);
        x.sync();
        Check.due(0, () -> x.punch(2, 6, 10));
        Check.due(5, x::buffered);
        Check.due(1, () -> x.punch(2, 11, 11));
        Check.due(6, x::buffered);
        Check.due(0, () -> x.punch(2, 11, 11));
        Check.due(6, x::buffered);
        x.write(2, 7, 9);
        Check.due(3, () -> x.punch(2, 0, 11));
        Check.due(12, x::buffered);
        Check.due(0, () -> x.read(2, 0));
        Check.due(0, () -> x.read(2, 7));
        Check.due(4, () -> x.read(1, 5));
        x.abandon();
        Check.due(3, () -> x.punch(2, 0, 11));
        Check.due(1, () -> x.punch(1, 0, 11));
    }

    private static void punchOutOfRange() {
        Check.promise("3 punch");
        Zfsmill x = new Zfsmill();
        int[][] wrong = {
            {-1, 0, 1}, {4, 0, 1}, {0, -1, 1}, {0, 12, 12}, {0, 0, 12}, {0, 5, 4}, {0, 11, 0},
            {0, 0, -1}, {0, -2, -1}, {0, Integer.MIN_VALUE, 0}, {0, 0, Integer.MAX_VALUE},
            {0, Integer.MAX_VALUE, Integer.MAX_VALUE}, {0, Integer.MIN_VALUE, Integer.MIN_VALUE},
            {Integer.MIN_VALUE, 0, 0}, {Integer.MAX_VALUE, 0, 0},
        };
        for (int[] w : wrong) {
            Check.due(Check.BAD_ARGUMENT, () -> x.punch(w[0], w[1], w[2]));
            Check.due(0, x::buffered);
        }
    }

    private static void setCopies() {
        Check.promise("4 setCopies");
        Zfsmill x = new Zfsmill();
        x.write(0, 0, 5);
        x.sync();
        x.write(0, 1, 6);
        x.write(1, 0, 7);
        Check.due(1, () -> x.setCopies(0, 2));
        Check.due(2, () -> x.setCopies(0, 2));
        Check.due(8 + 1, x::sync);
        Check.due(1, () -> x.places(0, 0));
        Check.due(2, () -> x.places(0, 1));
        Check.due(1, () -> x.places(1, 0));
        Check.due(0, x::sync);
        Check.due(1, () -> x.places(0, 0));
        x.write(0, 1, 6);
        Check.due(1, x::abandon);
        Check.due(2, () -> x.setCopies(0, 1));
        Check.due(1, () -> x.setCopies(3, 2));
        Check.due(0, x::buffered);
        x.write(0, 1, 6);
        Check.due(5, x::sync);
        Check.due(1, () -> x.places(0, 1));
    }

    private static void setCopiesOutOfRange() {
        Check.promise("4 setCopies");
        Zfsmill x = new Zfsmill();
        int[][] wrong = {
            {-1, 1}, {4, 1}, {0, 0}, {0, 3}, {0, -1}, {-1, 3}, {Integer.MIN_VALUE, 2},
            {Integer.MAX_VALUE, 2}, {0, Integer.MIN_VALUE}, {0, Integer.MAX_VALUE},
        };
        for (int[] w : wrong) {
            Check.due(Check.BAD_ARGUMENT, () -> x.setCopies(w[0], w[1]));
        }
        for (int file = 0; file < 4; file++) {
            int f = file;
            Check.due(1, () -> x.setCopies(f, 2));
        }
    }

    private static void readTellsWhatIsBuffered() {
        Check.promise("5 read");
        Zfsmill x = Pools.oneBlock();
        x.write(0, 0, 6);
        x.punch(0, 3, 3);
        spoilBothSides(x, 0, 1);
        x.spoil(1, 0, 1);
        Check.due(6, () -> x.read(0, 0));
        Check.due(0, () -> x.read(0, 3));
        Check.due(0, x::healed);
        x.spoil(1, 1, 1);
        Check.due(6, () -> x.read(0, 0));
        Check.due(0, () -> x.read(0, 3));
        Check.due(Check.BAD_STATE, () -> x.read(0, 1));
        x.abandon();
        Check.due(Check.BAD_STATE, () -> x.read(0, 0));
    }

    private static void readHealsUpToTheFirstGoodCell() {
        Check.promise("5 read");
        Zfsmill x = Pools.oneBlock();
        x.spoil(1, 0, 1);
        x.spoil(0, 1, 1);
        Check.due(5, () -> x.read(0, 0));
        Check.due(0, x::healed);
        x.spoil(0, 0, 1);
        Check.due(5, () -> x.read(0, 0));
        Check.due(3, x::healed);
        Check.due(false, () -> x.isSpoilt(0, 0, 1));
        Check.due(false, () -> x.isSpoilt(0, 1, 1));
        Check.due(false, () -> x.isSpoilt(1, 0, 1));
        x.spoil(0, 0, 0);
        spoilBothSides(x, 1, 0);
        x.spoil(2, 1, 0);
        Check.due(5, () -> x.read(0, 0));
        Check.due(6, x::healed);
        Check.due(false, () -> x.isSpoilt(0, 0, 0));
        Check.due(true, () -> x.isSpoilt(2, 1, 0));
    }

    private static void readOfHolesLooksAsFarAsPointersGo() {
        Check.promise("5 read");
        Zfsmill x = Pools.oneBlock();
        x.spoil(0, 0, 1);
        x.spoil(1, 0, 0);
        x.spoil(0, 0, 0);
        Check.due(0, () -> x.read(1, 0));
        Check.due(1, x::healed);
        Check.due(true, () -> x.isSpoilt(1, 0, 0));
        Check.due(0, () -> x.read(0, 11));
        Check.due(2, x::healed);
        Check.due(true, () -> x.isSpoilt(0, 0, 0));
        spoilBothSides(x, 1, 0);
        spoilBothSides(x, 2, 0);
        Check.due(Check.BAD_STATE, () -> x.read(0, 11));
        Check.due(0, () -> x.read(3, 0));
        spoilBothSides(x, 0, 1);
        spoilBothSides(x, 1, 1);
        Check.due(Check.BAD_STATE, () -> x.read(3, 0));
    }

    private static void readThatFailsHealsNothing() {
        Check.promise("5 read");
        Zfsmill x = Pools.oneBlock();
        x.spoil(0, 0, 1);
        x.spoil(1, 0, 0);
        spoilBothSides(x, 0, 0);
        Check.due(Check.BAD_STATE, () -> x.read(0, 0));
        Check.due(0, x::healed);
        Check.due(true, () -> x.isSpoilt(0, 0, 1));
        Check.due(true, () -> x.isSpoilt(1, 0, 0));
        Check.due(true, () -> x.isSpoilt(0, 0, 0));
        Check.due(true, () -> x.isSpoilt(0, 1, 0));
        spoilBothSides(x, 1, 0);
        spoilBothSides(x, 2, 0);
        Check.due(Check.BAD_STATE, () -> x.read(0, 1));
        Check.due(0, x::healed);
        Check.due(true, () -> x.isSpoilt(0, 0, 1));
    }

    private static void readWithSidesOffline() {
        Check.promise("5 read");
        Zfsmill x = Pools.oneBlock();
        x.spoil(0, 1, 0);
        x.spoil(0, 1, 1);
        x.offline(0, 0);
        Check.due(Check.BAD_STATE, () -> x.read(0, 0));
        Check.due(0, x::healed);
        Check.due(0, () -> x.read(0, 1));
        Check.due(1, x::healed);
        x.online(0, 0);
        Check.due(5, () -> x.read(0, 0));
        Check.due(1, x::healed);
        Check.due(true, () -> x.isSpoilt(0, 1, 0));
    }

    private static void readOutOfRange() {
        Check.promise("5 read");
        Zfsmill x = Pools.oneBlock();
        int[][] wrong = {
            {-1, 0}, {4, 0}, {0, -1}, {0, 12}, {Integer.MIN_VALUE, 0}, {Integer.MAX_VALUE, 0},
            {0, Integer.MIN_VALUE}, {0, Integer.MAX_VALUE}, {-1, 12}, {5, -12},
        };
        spoilBothSides(x, 0, 1);
        spoilBothSides(x, 1, 1);
        for (int[] w : wrong) {
            Check.due(Check.BAD_ARGUMENT, () -> x.read(w[0], w[1]));
            Check.due(Check.BAD_ARGUMENT, () -> x.nextData(w[0], w[1]));
            Check.due(Check.BAD_ARGUMENT, () -> x.nextHole(w[0], w[1]));
        }
    }

    private static void nextData() {
        Check.promise("6 nextData");
        Zfsmill x = Pools.oneBlock();
        spoilBothSides(x, 0, 1);
        spoilBothSides(x, 1, 1);
        Check.due(0, () -> x.nextData(0, 0));
        Check.due(Check.NO_ELEMENT, () -> x.nextData(0, 1));
        Check.due(Check.NO_ELEMENT, () -> x.nextData(1, 0));
        x.write(0, 11, 1);
        Check.due(11, () -> x.nextData(0, 1));
        Check.due(11, () -> x.nextData(0, 11));
        x.write(0, 4, 1);
        Check.due(4, () -> x.nextData(0, 1));
        Check.due(11, () -> x.nextData(0, 5));
        x.punch(0, 0, 10);
        Check.due(11, () -> x.nextData(0, 0));
        x.punch(0, 11, 11);
        Check.due(Check.NO_ELEMENT, () -> x.nextData(0, 0));
        Check.due(Check.NO_ELEMENT, () -> x.nextData(0, 11));
        x.abandon();
        Check.due(0, () -> x.nextData(0, 0));
        Check.due(0, x::healed);
    }

    private static void nextHole() {
        Check.promise("7 nextHole");
        Zfsmill x = Pools.oneBlock();
        spoilBothSides(x, 0, 1);
        spoilBothSides(x, 1, 1);
        Check.due(1, () -> x.nextHole(0, 0));
        Check.due(0, () -> x.nextHole(1, 0));
        Check.due(11, () -> x.nextHole(0, 11));
        x.write(0, 1, 1);
        x.write(0, 2, 1);
        Check.due(3, () -> x.nextHole(0, 0));
        x.punch(0, 0, 0);
        Check.due(0, () -> x.nextHole(0, 0));
        Check.due(3, () -> x.nextHole(0, 1));
        x.write(0, 11, 1);
        Check.due(12, () -> x.nextHole(0, 11));
        Check.due(10, () -> x.nextHole(0, 10));
        for (int block = 0; block < 12; block++) {
            x.write(0, block, 3);
        }
        x.write(1, 0, 3);
        Check.due(12, () -> x.nextHole(0, 0));
        x.punch(0, 0, 11);
        Check.due(Check.NO_ELEMENT, () -> x.nextData(0, 0));
        Check.due(0, x::healed);
    }
}
