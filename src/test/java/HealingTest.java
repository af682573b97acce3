/**
 * Promises 5, 14, 15 and 18 to 20, at their edges: each pattern of spoilt cells and offline sides
 * for each pointer on the way to a block, and the sentences on what is left alone.
 */
public final class HealingTest {
    /** The places of the block, its node and the root node of twoPlacesEach. */
    private static final int[][] POINTERS = {{0, 100}, {200, 1}, {101, 201}};

    public static void main(String[] args) {
        for (int[] pointer : POINTERS) {
            for (int spoilt = 0; spoilt < 16; spoilt++) {
                for (int away = 0; away < 9; away++) {
                    readLooksInOrder(pointer, spoilt, away);
                    scrubHealsFromAnyGoodCell(pointer, spoilt, away);
                    lostWithoutAGoodCell(pointer, spoilt, away);
                }
            }
        }
        readOfABufferedBlockLooksAtNoCell();
        readOfAHoleLooksAtNodesOnly();
        readOfAFileWithoutNodeLooksAtTheRootOnly();
        readThatFailsAtTheEndHealsNothing();
        nextDataAndNextHoleLookAtNoCell();
        scrubLeavesOutWhatIsUnderAnUnreadableNode();
        scrubLeavesOutAllUnderAnUnreadableRoot();
        scrubOfASinglePlace();
        scrubOfAllCells();
        lostOfAllBlocks();
        lostCountsNoHolesAndNoBuffer();
        lostChangesNothing();
        healedCountsEachSide();
        spoilTwice();
        spoilOfAFreedCell();
        writtenCellsAreNotSpoilt();
        Check.end();
    }

    private static Zfsmill twoPlacesEach() {
        Zfsmill x = new Zfsmill();
        x.setCopies(0, 2);
        x.write(0, 0, 5);
        Check.due(6, x::sync);
        return x;
    }

    private static Zfsmill hurt(int[] pointer, int spoilt, int away) {
        Zfsmill x = twoPlacesEach();
        for (int cell = 0; cell < 4; cell++) {
            if ((spoilt >> cell & 1) != 0) {
                Pools.spoil(x, pointer[cell / 2], cell % 2);
            }
        }
        for (int place = 0; place < 2; place++) {
            if (sideAway(away, place) >= 0) {
                x.offline(pointer[place] / 100, sideAway(away, place));
            }
        }
        return x;
    }

    /** For each of the two places: no side, or one of them. */
    private static int sideAway(int away, int place) {
        return (place == 0 ? away % 3 : away / 3) - 1;
    }

    private static boolean isOnline(int away, int cell) {
        return sideAway(away, cell / 2) != cell % 2;
    }

    /** How many cells are looked at until one is found that is not spoilt; -1 if none is. */
    private static int cellsBeforeTheGoodOne(int spoilt, int away) {
        int bad = 0;
        for (int cell = 0; cell < 4; cell++) {
            if (isOnline(away, cell)) {
                if ((spoilt >> cell & 1) == 0) {
                    return bad;
                }
                bad++;
            }
        }
        return -1;
    }

    private static void dueToBeSpoilt(Zfsmill x, int[] pointer, int cells) {
        for (int place = 0; place < 2; place++) {
            for (int side = 0; side < 2; side++) {
                try {
                    x.online(pointer[place] / 100, side);
                } catch (IllegalStateException e) {
                    continue;
                }
            }
        }
        for (int cell = 0; cell < 4; cell++) {
            int each = cell;
            Check.due((cells >> cell & 1) != 0,
                    () -> Pools.isSpoilt(x, pointer[each / 2], each % 2));
        }
    }

    private static void readLooksInOrder(int[] pointer, int spoilt, int away) {
        Check.promise("5 read, places in order, and the online sides in order");
        Zfsmill x = hurt(pointer, spoilt, away);
        int bad = cellsBeforeTheGoodOne(spoilt, away);
        Check.due(bad < 0 ? Check.BAD_STATE : 5, () -> x.read(0, 0));
        Check.due(Math.max(bad, 0), x::healed);
        int left = spoilt;
        int looked = 0;
        for (int cell = 0; cell < 4 && looked < bad; cell++) {
            if (isOnline(away, cell)) {
                left &= ~(1 << cell);
                looked++;
            }
        }
        dueToBeSpoilt(x, pointer, left);
    }

    private static void scrubHealsFromAnyGoodCell(int[] pointer, int spoilt, int away) {
        Check.promise("18 scrub, if a cell of its places is not spoilt on some online side");
        Zfsmill x = hurt(pointer, spoilt, away);
        int due = 0;
        int left = spoilt;
        if (cellsBeforeTheGoodOne(spoilt, away) >= 0) {
            for (int cell = 0; cell < 4; cell++) {
                if (isOnline(away, cell)) {
                    due += spoilt >> cell & 1;
                    left &= ~(1 << cell);
                }
            }
        }
        Check.due(due, x::scrub);
        Check.due(due, x::healed);
        Check.due(0, x::scrub);
        dueToBeSpoilt(x, pointer, left);
    }

    private static void lostWithoutAGoodCell(int[] pointer, int spoilt, int away) {
        Check.promise("20 lost, could not be read now");
        Zfsmill x = hurt(pointer, spoilt, away);
        Check.due(cellsBeforeTheGoodOne(spoilt, away) < 0 ? 1 : 0, x::lost);
        Check.due(0, x::healed);
        dueToBeSpoilt(x, pointer, spoilt);
    }

    // read

    private static void readOfABufferedBlockLooksAtNoCell() {
        Check.promise("5 read, if something is buffered for it, no cell is looked at");
        Zfsmill x = twoPlacesEach();
        for (int[] pointer : POINTERS) {
            Pools.spoil(x, pointer[0], 0);
        }
        x.write(0, 0, 6);
        x.punch(0, 1, 1);
        Check.due(6, () -> x.read(0, 0));
        Check.due(0, () -> x.read(0, 1));
        Check.due(0, x::healed);
        for (int[] pointer : POINTERS) {
            Check.due(true, () -> Pools.isSpoilt(x, pointer[0], 0));
            Pools.spoilBothSides(x, pointer[0]);
            Pools.spoilBothSides(x, pointer[1]);
        }
        Check.due(6, () -> x.read(0, 0));
        Check.due(0, () -> x.read(0, 1));
        Check.due(0, x::healed);
        Check.due(Check.BAD_STATE, () -> x.read(0, 2));
    }

    private static void readOfAHoleLooksAtNodesOnly() {
        Check.promise("5 read, as far as they are not missing");
        Zfsmill x = twoPlacesEach();
        for (int[] pointer : POINTERS) {
            Pools.spoil(x, pointer[0], 0);
        }
        Check.due(0, () -> x.read(0, 1));
        Check.due(2, x::healed);
        Check.due(true, () -> Pools.isSpoilt(x, 0, 0));
        Check.due(false, () -> Pools.isSpoilt(x, 200, 0));
        Check.due(false, () -> Pools.isSpoilt(x, 101, 0));
        Pools.spoilBothSides(x, 200);
        Pools.spoilBothSides(x, 1);
        Check.due(Check.BAD_STATE, () -> x.read(0, 1));
        Check.due(2, x::healed);
    }

    private static void readOfAFileWithoutNodeLooksAtTheRootOnly() {
        Check.promise("5 read, as far as they are not missing");
        Zfsmill x = twoPlacesEach();
        for (int[] pointer : POINTERS) {
            Pools.spoil(x, pointer[0], 0);
        }
        Check.due(0, () -> x.read(1, 0));
        Check.due(1, x::healed);
        Check.due(true, () -> Pools.isSpoilt(x, 200, 0));
        Pools.spoilBothSides(x, 101);
        Pools.spoilBothSides(x, 201);
        Check.due(Check.BAD_STATE, () -> x.read(1, 0));
        Check.due(1, x::healed);
    }

    /** Three cells of the root node and of the node would be healed, but the block is lost. */
    private static void readThatFailsAtTheEndHealsNothing() {
        Check.promise("5 read, nothing is healed then");
        Zfsmill x = twoPlacesEach();
        for (int[] pointer : POINTERS) {
            Pools.spoilBothSides(x, pointer[0]);
            Pools.spoil(x, pointer[1], 0);
        }
        Pools.spoil(x, 100, 1);
        Check.due(Check.BAD_STATE, () -> x.read(0, 0));
        Check.due(0, x::healed);
        for (int[] pointer : POINTERS) {
            Check.due(true, () -> Pools.isSpoilt(x, pointer[0], 0));
            Check.due(true, () -> Pools.isSpoilt(x, pointer[0], 1));
            Check.due(true, () -> Pools.isSpoilt(x, pointer[1], 0));
        }
        Check.due(0, () -> x.read(0, 11));
        Check.due(6, x::healed);
    }

    private static void nextDataAndNextHoleLookAtNoCell() {
        Check.promise("6 nextData and 7 nextHole, no cell is looked at");
        Zfsmill x = twoPlacesEach();
        for (int[] pointer : POINTERS) {
            Pools.spoil(x, pointer[0], 0);
        }
        Check.due(0, () -> x.nextData(0, 0));
        Check.due(1, () -> x.nextHole(0, 0));
        Check.due(0, x::healed);
        for (int[] pointer : POINTERS) {
            Check.due(true, () -> Pools.isSpoilt(x, pointer[0], 0));
            Pools.spoilBothSides(x, pointer[0]);
            Pools.spoilBothSides(x, pointer[1]);
        }
        Check.due(0, () -> x.nextData(0, 0));
        Check.due(1, () -> x.nextHole(0, 0));
        Check.due(5, () -> x.write(0, 0, 6));
        Check.due(1, () -> x.punch(0, 0, 11));
        Check.due(0, x::healed);
    }

    // scrub

    private static void scrubLeavesOutWhatIsUnderAnUnreadableNode() {
        Check.promise("18 scrub, what is under a node that cannot be read is left out");
        for (int hidden = 0; hidden < 4; hidden++) {
            int lost = hidden;
            Zfsmill x = Pools.allBlocks();
            for (int nth = 0; nth < 2; nth++) {
                Pools.spoilBothSides(x, x.nodePlace(lost, nth));
            }
            for (int file = 0; file < 4; file++) {
                Pools.spoil(x, x.place(file, 0, 0), 0);
                Pools.spoil(x, x.place(file, 11, 1), 1);
            }
            Check.due(6, x::scrub);
            Check.due(12, x::lost);
            for (int file = 0; file < 4; file++) {
                int f = file;
                Check.due(f == lost, () -> Pools.isSpoilt(x, x.place(f, 0, 0), 0));
                Check.due(f == lost, () -> Pools.isSpoilt(x, x.place(f, 11, 1), 1));
            }
            Check.due(true, () -> Pools.isSpoilt(x, x.nodePlace(lost, 0), 0));
            Check.due(0, x::scrub);
        }
    }

    private static void scrubLeavesOutAllUnderAnUnreadableRoot() {
        Check.promise("18 scrub, what is under a node that cannot be read is left out");
        Zfsmill x = Pools.allBlocks();
        for (int nth = 0; nth < 2; nth++) {
            Pools.spoilBothSides(x, x.rootPlace(nth));
        }
        for (int file = 0; file < 4; file++) {
            Pools.spoil(x, x.nodePlace(file, 0), 0);
            Pools.spoil(x, x.place(file, 5, 0), 0);
        }
        Check.due(0, x::scrub);
        Check.due(0, x::healed);
        for (int file = 0; file < 4; file++) {
            int f = file;
            Check.due(true, () -> Pools.isSpoilt(x, x.nodePlace(f, 0), 0));
            Check.due(true, () -> Pools.isSpoilt(x, x.place(f, 5, 0), 0));
        }
        // The next root node can be read, and so all of it is found.
        x.punch(0, 0, 0);
        x.sync();
        Check.due(7, x::scrub);
    }

    private static void scrubOfASinglePlace() {
        Check.promise("18 scrub, a block with one place");
        Zfsmill x = Pools.oneBlock();
        x.spoil(0, 1, 0);
        Check.due(1, x::scrub);
        x.spoil(0, 0, 0);
        Check.due(1, x::scrub);
        Pools.spoilBothSides(x, 0);
        Check.due(0, x::scrub);
        Check.due(true, () -> x.isSpoilt(0, 0, 0));
        Check.due(true, () -> x.isSpoilt(0, 1, 0));
        Check.due(2, x::healed);
        Check.due(1, x::lost);
    }

    /** One side of every cell, then the other one. */
    private static void scrubOfAllCells() {
        Check.promise("18 scrub, all used cells of a side");
        for (int side = 0; side < 2; side++) {
            Zfsmill x = Pools.allBlocks();
            for (int nth = 0; nth < 120; nth++) {
                if (!x.isFree(nth / 40, nth % 40)) {
                    x.spoil(nth / 40, side, nth % 40);
                }
            }
            Check.due(0, x::lost);
            Check.due(106, x::scrub);
            Check.due(106, x::healed);
            Check.due(0, x::scrub);
        }
    }

    // lost and healed

    private static void lostOfAllBlocks() {
        Check.promise("20 lost, because a pointer on the way could not be read");
        Zfsmill x = Pools.allBlocks();
        Check.due(0, x::lost);
        Pools.spoilBothSides(x, x.place(3, 11, 0));
        Check.due(0, x::lost);
        Pools.spoilBothSides(x, x.place(3, 11, 1));
        Check.due(1, x::lost);
        Pools.spoilBothSides(x, x.nodePlace(3, 0));
        Pools.spoilBothSides(x, x.nodePlace(3, 1));
        Check.due(12, x::lost);
        Pools.spoilBothSides(x, x.rootPlace(0));
        Check.due(12, x::lost);
        Pools.spoilBothSides(x, x.rootPlace(1));
        Check.due(48, x::lost);
    }

    private static void lostCountsNoHolesAndNoBuffer() {
        Check.promise("20 lost, synced blocks that are no holes");
        Zfsmill x = Pools.oneBlock();
        x.write(0, 1, 6);
        Check.due(0, x::lost);
        Pools.spoilBothSides(x, 1);
        Pools.spoilBothSides(x, 101);
        Check.due(1, x::lost);
        x.write(0, 0, 6);
        Check.due(1, x::lost);
        x.punch(0, 0, 11);
        Check.due(1, x::lost);
        x.sync();
        Check.due(0, x::lost);
    }

    private static void lostChangesNothing() {
        Check.promise("20 lost, nothing changes");
        Zfsmill x = twoPlacesEach();
        for (int[] pointer : POINTERS) {
            Pools.spoilBothSides(x, pointer[0]);
        }
        Check.due(0, x::lost);
        Check.due(0, x::healed);
        for (int[] pointer : POINTERS) {
            Check.due(true, () -> Pools.isSpoilt(x, pointer[0], 0));
            Check.due(true, () -> Pools.isSpoilt(x, pointer[0], 1));
        }
        Check.due(6, x::scrub);
    }

    private static void healedCountsEachSide() {
        Check.promise("19 healed, by reading and by scrubbing, each side by itself");
        Zfsmill x = twoPlacesEach();
        Pools.spoilBothSides(x, 0);
        Pools.spoil(x, 100, 1);
        x.read(0, 0);
        Check.due(2, x::healed);
        Check.due(1, x::scrub);
        Check.due(3, x::healed);
        // Neither writing nor resilvering heals.
        Pools.spoil(x, 0, 0);
        x.offline(0, 1);
        x.write(0, 0, 6);
        x.sync();
        x.online(0, 1);
        Check.due(3, x::healed);
    }

    // spoil and isSpoilt

    private static void spoilTwice() {
        Check.promise("14 spoil, which may be spoilt there before");
        Zfsmill x = Pools.oneBlock();
        for (int side = 0; side < 2; side++) {
            int s = side;
            Check.due(true, () -> x.spoil(0, s, 0));
            Check.due(false, () -> x.spoil(0, s, 0));
            Check.due(false, () -> x.spoil(0, s, 0));
            Check.due(true, () -> x.isSpoilt(0, s, 0));
            Check.due(s == 1, () -> x.isSpoilt(0, 1, 0));
        }
        Check.due(false, () -> x.isSpoilt(0, 0, 1));
    }

    /** A free cell is not spoilt, whatever it was when it was used last. */
    private static void spoilOfAFreedCell() {
        Check.promise("15 isSpoilt, whether it is used, and spoilt there");
        Zfsmill x = Pools.oneBlock();
        Pools.spoilBothSides(x, 0);
        x.write(0, 0, 6);
        Check.due(true, () -> x.isSpoilt(0, 0, 0));
        x.sync();
        Check.due(true, () -> x.isFree(0, 0));
        Check.due(false, () -> x.isSpoilt(0, 0, 0));
        Check.due(false, () -> x.isSpoilt(0, 1, 0));
        Check.due(Check.BAD_STATE, () -> x.spoil(0, 0, 0));
    }

    private static void writtenCellsAreNotSpoilt() {
        Check.promise("Terms: written to the online sides, where it is not spoilt then");
        Zfsmill x = Pools.oneBlock();
        for (int place : new int[] {0, 100, 200, 1, 101}) {
            Pools.spoilBothSides(x, place);
        }
        x.punch(0, 0, 0);
        x.sync();
        x.write(0, 0, 6);
        Check.due(5, x::sync);
        for (int place : new int[] {0, 100, 200, 1, 101}) {
            Check.due(false, () -> x.isFree(place / 100, place % 100));
            Check.due(false, () -> Pools.isSpoilt(x, place, 0));
            Check.due(false, () -> Pools.isSpoilt(x, place, 1));
            Check.due(true, () -> x.spoil(place / 100, 0, place % 100));
        }
        Check.due(6, () -> x.read(0, 0));
        Check.due(3, x::healed);
    }
}
