/** Promises 12 to 20. */
public final class SidesTest {
    public static void main(String[] args) {
        offline();
        sidesOutOfRange();
        onlineAnswers();
        onlineCopiesWhatIsNewer();
        onlineCopiesSpoiltCells();
        onlineCopiesFromTheOtherPlace();
        onlineLooksAtOnlineSidesOnly();
        onlineWalksBelowUnreadableNodes();
        onlineLeavesOlderCellsAsTheyWere();
        onlinePassesOverOlderNodes();
        onlineForgetsMarksOfFormerUse();
        spoil();
        isSpoilt();
        cellsOutOfRange();
        isFree();
        free();
        scrubHealsAllPlaces();
        scrubLeavesOutWhatCannotBeRead();
        scrubWithSidesOffline();
        healed();
        lost();
        lostCountsWhatIsSynced();
        Check.end();
    }

    private static void spoilBothSides(Zfsmill x, int mirror, int cell) {
        x.spoil(mirror, 0, cell);
        x.spoil(mirror, 1, cell);
    }

    private static void offline() {
        Check.promise("12 offline");
        Zfsmill x = Pools.oneBlock();
        Check.dueOf(null, () -> x.offline(0, 0));
        Check.dueOf(Check.BAD_STATE, () -> x.offline(0, 0));
        Check.dueOf(Check.BAD_STATE, () -> x.offline(0, 1));
        Check.due(Check.BAD_STATE, () -> x.isSpoilt(0, 0, 0));
        Check.due(false, () -> x.isSpoilt(0, 1, 0));
        Check.dueOf(null, () -> x.offline(1, 1));
        Check.dueOf(null, () -> x.offline(2, 0));
        Check.dueOf(Check.BAD_STATE, () -> x.offline(2, 1));
        Check.due(5, () -> x.read(0, 0));
        Check.due(0, () -> x.online(0, 0));
        Check.dueOf(null, () -> x.offline(0, 1));
    }

    private static void sidesOutOfRange() {
        int[][] wrong = {
            {-1, 0}, {3, 0}, {0, -1}, {0, 2}, {Integer.MIN_VALUE, 0}, {Integer.MAX_VALUE, 0},
            {0, Integer.MIN_VALUE}, {0, Integer.MAX_VALUE}, {-1, 2}, {1, -2}, {2, 2},
        };
        Zfsmill x = Pools.oneBlock();
        x.offline(0, 0);
        for (int[] w : wrong) {
            Check.promise("12 offline");
            Check.dueOf(Check.BAD_ARGUMENT, () -> x.offline(w[0], w[1]));
            Check.promise("13 online");
            Check.due(Check.BAD_ARGUMENT, () -> x.online(w[0], w[1]));
            Check.promise("14 spoil");
            Check.due(Check.BAD_ARGUMENT, () -> x.spoil(w[0], w[1], 0));
            Check.promise("15 isSpoilt");
            Check.due(Check.BAD_ARGUMENT, () -> x.isSpoilt(w[0], w[1], 0));
        }
    }

    private static void onlineAnswers() {
        Check.promise("13 online");
        Zfsmill x = new Zfsmill();
        Check.due(Check.BAD_STATE, () -> x.online(0, 0));
        x.offline(0, 0);
        Check.due(Check.BAD_STATE, () -> x.online(0, 1));
        Check.due(0, () -> x.online(0, 0));
        Check.due(Check.BAD_STATE, () -> x.online(0, 0));
        x.offline(0, 1);
        x.write(0, 0, 1);
        x.sync();
        // Nothing was synced when the side went, so that all is newer: the block and the root.
        Check.due(2, () -> x.online(0, 1));
        Check.due(false, () -> x.isSpoilt(0, 1, 0));
    }

    private static void onlineCopiesWhatIsNewer() {
        Check.promise("13 online");
        Zfsmill x = Pools.oneBlock();
        x.offline(0, 1);
        x.offline(1, 0);
        x.offline(2, 0);
        x.write(0, 1, 6);
        x.sync();
        // The new block lies at 201, its node at 2 and 102, the root node at 202 and 3.
        Check.due(201, () -> x.place(0, 1, 0));
        Check.due(2, () -> x.nodePlace(0, 0));
        Check.due(202, () -> x.rootPlace(0));
        Check.due(2, () -> x.online(0, 1));
        Check.due(1, () -> x.online(1, 0));
        Check.due(2, () -> x.online(2, 0));
        x.offline(0, 1);
        Check.due(0, () -> x.online(0, 1));
        Check.due(0, x::healed);
    }

    private static void onlineCopiesSpoiltCells() {
        Check.promise("13 online");
        Zfsmill x = Pools.oneBlock();
        x.punch(0, 0, 11);
        x.sync();
        x.offline(0, 1);
        x.write(0, 0, 6);
        x.sync();
        Check.due(0, () -> x.place(0, 0, 0));
        x.spoil(0, 0, 0);
        Check.due(2, () -> x.online(0, 1));
        Check.due(true, () -> x.isSpoilt(0, 1, 0));
        Check.due(Check.BAD_STATE, () -> x.read(0, 0));
        Check.due(1, x::lost);
    }

    private static void onlineCopiesFromTheOtherPlace() {
        Check.promise("13 online");
        for (int hurt = 0; hurt < 3; hurt++) {
            Zfsmill x = Pools.oneBlock();
            x.offline(0, 1);
            x.write(0, 1, 6);
            x.sync();
            // The node lies at 2 and 102.
            x.spoil(0, 0, 2);
            if (hurt > 0) {
                x.spoil(1, 0, 2);
            }
            if (hurt > 1) {
                x.spoil(1, 1, 2);
            }
            boolean lost = hurt > 1;
            Check.due(2, () -> x.online(0, 1));
            Check.due(lost, () -> x.isSpoilt(0, 1, 2));
            Check.due(false, () -> x.isSpoilt(0, 1, 3));
            Check.due(true, () -> x.isSpoilt(0, 0, 2));
            Check.due(0, x::healed);
        }
    }

    private static void onlineLooksAtOnlineSidesOnly() {
        Check.promise("13 online");
        Zfsmill x = Pools.oneBlock();
        x.offline(0, 1);
        x.write(0, 1, 6);
        x.sync();
        x.spoil(0, 0, 2);
        x.spoil(1, 0, 2);
        x.offline(1, 1);
        Check.due(2, () -> x.online(0, 1));
        Check.due(true, () -> x.isSpoilt(0, 1, 2));
        Check.due(0, () -> x.online(1, 1));
        Check.due(false, () -> x.isSpoilt(1, 1, 2));
        // The cell 2 on both sides, and the cell 102 on side 0, from the cell 102 on side 1.
        Check.due(3, x::scrub);
        Check.due(false, () -> x.isSpoilt(0, 1, 2));
    }

    private static void onlineWalksBelowUnreadableNodes() {
        Check.promise("13 online");
        Zfsmill x = Pools.oneBlock();
        x.offline(0, 1);
        x.setCopies(0, 2);
        x.write(0, 0, 6);
        x.sync();
        // The block lies at 201 and 2, its node at 102 and 202, the root node at 3 and 103.
        Check.due(2, () -> x.place(0, 0, 1));
        Check.due(102, () -> x.nodePlace(0, 0));
        Check.due(3, () -> x.rootPlace(0));
        x.spoil(0, 0, 2);
        x.spoil(0, 0, 3);
        spoilBothSides(x, 1, 2);
        spoilBothSides(x, 2, 2);
        spoilBothSides(x, 1, 3);
        Check.due(2, () -> x.online(0, 1));
        Check.due(false, () -> x.isSpoilt(0, 1, 2));
        Check.due(true, () -> x.isSpoilt(0, 1, 3));
    }

    private static void onlineLeavesOlderCellsAsTheyWere() {
        Check.promise("13 online");
        Zfsmill x = Pools.oneBlock();
        x.spoil(0, 1, 0);
        x.spoil(0, 1, 1);
        x.spoil(0, 0, 0);
        x.offline(0, 1);
        Check.due(0, x::scrub);
        Check.due(0, () -> x.online(0, 1));
        Check.due(true, () -> x.isSpoilt(0, 1, 0));
        Check.due(true, () -> x.isSpoilt(0, 1, 1));
        x.offline(0, 1);
        x.write(1, 0, 9);
        x.sync();
        x.online(0, 1);
        Check.due(true, () -> x.isSpoilt(0, 1, 0));
        Check.due(true, () -> x.isSpoilt(0, 0, 0));
    }

    /** Whatever was synced by the time of the outage is passed over, its last group included. */
    private static void onlinePassesOverOlderNodes() {
        Check.promise("13 online");
        Zfsmill x = Pools.oneBlock();
        x.spoil(1, 1, 0);
        x.offline(1, 1);
        x.write(1, 0, 9);
        x.sync();
        // The node of file 0 is still at 100; new are the block at 201, its node at 2 and 102,
        // and the root node at 202 and 3.
        Check.due(100, () -> x.nodePlace(0, 0));
        Check.due(201, () -> x.place(1, 0, 0));
        Check.due(102, () -> x.nodePlace(1, 1));
        Check.due(1, () -> x.online(1, 1));
        Check.due(true, () -> x.isSpoilt(1, 1, 0));
    }

    private static void onlineForgetsMarksOfFormerUse() {
        Check.promise("13 online");
        Zfsmill x = Pools.oneBlock();
        x.spoil(0, 1, 0);
        x.offline(0, 1);
        x.punch(0, 0, 0);
        x.sync();
        x.write(0, 0, 6);
        x.sync();
        Check.due(0, () -> x.place(0, 0, 0));
        Check.due(2, () -> x.online(0, 1));
        Check.due(false, () -> x.isSpoilt(0, 1, 0));
        x.spoil(0, 1, 0);
        x.offline(0, 1);
        x.punch(0, 0, 0);
        x.sync();
        Check.due(0, () -> x.online(0, 1));
        Check.due(false, () -> x.isSpoilt(0, 1, 0));
        x.write(0, 0, 7);
        x.sync();
        Check.due(false, () -> x.isSpoilt(0, 1, 0));
    }

    private static void spoil() {
        Check.promise("14 spoil");
        Zfsmill x = Pools.oneBlock();
        Check.due(true, () -> x.spoil(0, 0, 0));
        Check.due(false, () -> x.spoil(0, 0, 0));
        Check.due(false, () -> x.isSpoilt(0, 1, 0));
        Check.due(true, () -> x.spoil(0, 1, 0));
        Check.due(true, () -> x.spoil(1, 1, 0));
        Check.due(Check.BAD_STATE, () -> x.spoil(0, 0, 2));
        Check.due(Check.BAD_STATE, () -> x.spoil(0, 0, 39));
        Check.due(Check.BAD_STATE, () -> x.spoil(2, 1, 1));
        x.offline(2, 1);
        Check.due(Check.BAD_STATE, () -> x.spoil(2, 1, 0));
        Check.due(true, () -> x.spoil(2, 0, 0));
        x.online(2, 1);
        Check.due(false, () -> x.isSpoilt(2, 1, 0));
        Check.due(true, () -> x.spoil(2, 1, 0));
    }

    private static void isSpoilt() {
        Check.promise("15 isSpoilt");
        Zfsmill x = Pools.oneBlock();
        Check.due(false, () -> x.isSpoilt(0, 0, 0));
        x.spoil(0, 0, 0);
        Check.due(true, () -> x.isSpoilt(0, 0, 0));
        Check.due(false, () -> x.isSpoilt(0, 1, 0));
        Check.due(false, () -> x.isSpoilt(0, 0, 1));
        Check.due(false, () -> x.isSpoilt(1, 0, 0));
        Check.due(false, () -> x.isSpoilt(2, 1, 39));
        x.punch(0, 0, 0);
        Check.due(true, () -> x.isSpoilt(0, 0, 0));
        x.sync();
        Check.due(false, () -> x.isSpoilt(0, 0, 0));
        x.offline(0, 0);
        Check.due(Check.BAD_STATE, () -> x.isSpoilt(0, 0, 0));
        Check.due(false, () -> x.isSpoilt(0, 1, 0));
    }

    private static void cellsOutOfRange() {
        Zfsmill x = Pools.oneBlock();
        x.offline(0, 0);
        for (int cell : new int[] {-1, 40, Integer.MIN_VALUE, Integer.MAX_VALUE}) {
            Check.promise("14 spoil");
            Check.due(Check.BAD_ARGUMENT, () -> x.spoil(0, 0, cell));
            Check.due(Check.BAD_ARGUMENT, () -> x.spoil(2, 1, cell));
            Check.promise("15 isSpoilt");
            Check.due(Check.BAD_ARGUMENT, () -> x.isSpoilt(0, 0, cell));
            Check.due(Check.BAD_ARGUMENT, () -> x.isSpoilt(2, 1, cell));
            Check.promise("16 isFree");
            Check.due(Check.BAD_ARGUMENT, () -> x.isFree(0, cell));
            Check.due(Check.BAD_ARGUMENT, () -> x.isFree(2, cell));
        }
        for (int mirror : new int[] {-1, 3, Integer.MIN_VALUE, Integer.MAX_VALUE}) {
            Check.promise("16 isFree");
            Check.due(Check.BAD_ARGUMENT, () -> x.isFree(mirror, 0));
            Check.promise("17 free");
            Check.due(Check.BAD_ARGUMENT, () -> x.free(mirror));
        }
    }

    private static void isFree() {
        Check.promise("16 isFree");
        Zfsmill x = Pools.oneBlock();
        for (int mirror = 0; mirror < 3; mirror++) {
            for (int cell = 0; cell < 40; cell++) {
                int m = mirror;
                int c = cell;
                boolean used = cell == 0 || cell == 1 && mirror < 2;
                Check.due(!used, () -> x.isFree(m, c));
            }
        }
        x.write(0, 0, 6);
        x.spoil(0, 0, 0);
        x.offline(0, 0);
        Check.due(false, () -> x.isFree(0, 0));
        x.sync();
        Check.due(true, () -> x.isFree(0, 0));
        Check.due(false, () -> x.isFree(2, 1));
    }

    private static void free() {
        Check.promise("17 free");
        Zfsmill x = Pools.oneBlock();
        Check.due(38, () -> x.free(0));
        Check.due(38, () -> x.free(1));
        Check.due(39, () -> x.free(2));
        x.write(0, 0, 6);
        x.offline(0, 0);
        Check.due(38, () -> x.free(0));
        x.punch(0, 0, 0);
        Check.due(38, () -> x.free(0));
        x.sync();
        Check.due(40, () -> x.free(0));
        Check.due(40, () -> x.free(1));
        Check.due(40, () -> x.free(2));
    }

    private static void scrubHealsAllPlaces() {
        Check.promise("18 scrub");
        Zfsmill x = Pools.oneBlock();
        Check.due(0, x::scrub);
        x.spoil(0, 1, 0);
        x.spoil(1, 0, 0);
        spoilBothSides(x, 2, 0);
        spoilBothSides(x, 0, 1);
        x.spoil(1, 1, 1);
        Check.due(7, x::scrub);
        Check.due(7, x::healed);
        Check.due(0, x::scrub);
        for (int side = 0; side < 2; side++) {
            int s = side;
            Check.due(false, () -> x.isSpoilt(0, s, 0));
            Check.due(false, () -> x.isSpoilt(2, s, 0));
            Check.due(false, () -> x.isSpoilt(0, s, 1));
            Check.due(false, () -> x.isSpoilt(1, s, 1));
        }
        x.write(0, 0, 6);
        x.spoil(0, 0, 0);
        Check.due(1, x::scrub);
        Check.due(1, x::buffered);
    }

    private static void scrubLeavesOutWhatCannotBeRead() {
        Check.promise("18 scrub");
        Zfsmill x = Pools.oneBlock();
        spoilBothSides(x, 1, 0);
        spoilBothSides(x, 2, 0);
        x.spoil(0, 0, 0);
        x.spoil(0, 0, 1);
        Check.due(1, x::scrub);
        Check.due(false, () -> x.isSpoilt(0, 0, 1));
        Check.due(true, () -> x.isSpoilt(0, 0, 0));
        Check.due(true, () -> x.isSpoilt(1, 0, 0));
        Zfsmill y = Pools.oneBlock();
        spoilBothSides(y, 0, 1);
        spoilBothSides(y, 1, 1);
        y.spoil(0, 0, 0);
        y.spoil(1, 0, 0);
        Check.due(0, y::scrub);
        Check.due(true, () -> y.isSpoilt(1, 0, 0));
        Zfsmill w = Pools.oneBlock();
        w.write(1, 0, 6);
        w.sync();
        for (int nth = 0; nth < 2; nth++) {
            int node = w.nodePlace(1, nth);
            spoilBothSides(w, node / 100, node % 100);
        }
        int below = w.place(1, 0, 0);
        w.spoil(below / 100, 0, below % 100);
        w.spoil(0, 0, 0);
        Check.due(1, w::scrub);
        Check.due(false, () -> w.isSpoilt(0, 0, 0));
        Check.due(true, () -> w.isSpoilt(below / 100, 0, below % 100));
        Zfsmill z = Pools.oneBlock();
        z.write(0, 1, 6);
        z.sync();
        spoilBothSides(z, 0, 0);
        z.spoil(2, 0, 1);
        Check.due(1, z::scrub);
        Check.due(true, () -> z.isSpoilt(0, 0, 0));
        Check.due(false, () -> z.isSpoilt(2, 0, 1));
    }

    private static void scrubWithSidesOffline() {
        Check.promise("18 scrub");
        Zfsmill x = Pools.oneBlock();
        x.spoil(0, 0, 0);
        x.spoil(0, 1, 1);
        x.spoil(1, 0, 0);
        x.offline(0, 1);
        x.offline(1, 0);
        Check.due(0, x::scrub);
        Check.due(true, () -> x.isSpoilt(0, 0, 0));
        x.online(0, 1);
        x.online(1, 0);
        Check.due(true, () -> x.isSpoilt(0, 1, 1));
        Check.due(true, () -> x.isSpoilt(1, 0, 0));
        Check.due(3, x::scrub);
    }

    private static void healed() {
        Check.promise("19 healed");
        Zfsmill x = Pools.oneBlock();
        spoilBothSides(x, 1, 0);
        x.spoil(0, 0, 0);
        Check.due(0, x::healed);
        x.read(0, 0);
        Check.due(3, x::healed);
        x.read(0, 0);
        Check.due(3, x::healed);
        x.spoil(2, 0, 0);
        x.scrub();
        Check.due(4, x::healed);
        x.spoil(2, 0, 0);
        x.write(0, 0, 6);
        x.sync();
        Check.due(4, x::healed);
        x.offline(0, 0);
        x.write(0, 0, 7);
        x.sync();
        x.online(0, 0);
        Check.due(4, x::healed);
    }

    private static void lost() {
        Check.promise("20 lost");
        Zfsmill x = Pools.oneBlock();
        x.write(0, 11, 6);
        x.write(2, 3, 7);
        x.sync();
        Check.due(0, x::lost);
        int block = x.place(0, 11, 0);
        spoilBothSides(x, block / 100, block % 100);
        Check.due(1, x::lost);
        int node = x.nodePlace(0, 0);
        spoilBothSides(x, node / 100, node % 100);
        Check.due(1, x::lost);
        int other = x.nodePlace(0, 1);
        x.spoil(other / 100, 1, other % 100);
        x.offline(other / 100, 0);
        Check.due(2, x::lost);
        x.online(other / 100, 0);
        Check.due(1, x::lost);
        for (int nth = 0; nth < 2; nth++) {
            int root = x.rootPlace(nth);
            spoilBothSides(x, root / 100, root % 100);
        }
        Check.due(3, x::lost);
        Check.due(3, x::lost);
        Check.due(0, x::healed);
    }

    private static void lostCountsWhatIsSynced() {
        Check.promise("20 lost");
        Zfsmill x = Pools.oneBlock();
        spoilBothSides(x, 0, 0);
        x.write(0, 0, 6);
        x.write(0, 1, 6);
        x.punch(0, 2, 2);
        Check.due(1, x::lost);
        x.punch(0, 0, 0);
        Check.due(1, x::lost);
        x.sync();
        Check.due(0, x::lost);
    }
}
