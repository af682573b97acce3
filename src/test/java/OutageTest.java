/** Promises 12 and 13, at the edges of an outage: what is passed over, and what is copied how. */
public final class OutageTest {
    public static void main(String[] args) {
        outageBeforeAnySync();
        birthEqualToTheOutage();
        birthOneGreaterThanTheOutage();
        emptySyncsBeforeAndWithinTheOutage();
        olderBlockUnderANewerNode();
        olderFileUnderANewerRoot();
        missingPointersArePassedOver();
        allBlocksAreCopied();
        copiesOfASinglePlace();
        copiesOfOneOfTwoPlaces();
        nodesThatCannotBeRead();
        cellsThatWereSpoiltBefore();
        cellsThatWereFreeBefore();
        cellsThatWereWrittenTwice();
        secondOutage();
        outagesOfSeveralMirrors();
        outagesOfBothSidesInTurn();
        oneSideOfEachMirrorAtMost();
        onlyThatSideChanges();
        bufferedChangesAreNotCopied();
        Check.end();
    }

    /** Beside oneBlock's block: a block at 201, its node at 2 and 102, the root at 202 and 3. */
    private static void syncSecondBlock(Zfsmill x) {
        x.write(0, 1, 6);
        x.sync();
        Check.due(201, () -> x.place(0, 1, 0));
        Check.due(2, () -> x.nodePlace(0, 0));
        Check.due(102, () -> x.nodePlace(0, 1));
        Check.due(202, () -> x.rootPlace(0));
        Check.due(3, () -> x.rootPlace(1));
    }

    private static void outageBeforeAnySync() {
        Check.promise("13 online, the outage is 0 if nothing was synced yet");
        int[] due = {2, 2, 1};
        for (int nth = 0; nth < 6; nth++) {
            int mirror = nth / 2;
            int side = nth % 2;
            Zfsmill x = new Zfsmill();
            x.offline(mirror, side);
            x.write(0, 0, 5);
            Check.due(5, x::sync);
            Check.due(due[mirror], () -> x.online(mirror, side));
            Check.due(false, () -> x.isSpoilt(mirror, side, 0));
            Check.due(1, () -> x.birth(0, 0));
        }
    }

    private static void birthEqualToTheOutage() {
        Check.promise("13 online, a birth that is not greater than the outage");
        Zfsmill x = Pools.oneBlock();
        x.spoil(0, 1, 0);
        x.spoil(0, 1, 1);
        x.offline(0, 1);
        Check.due(0, () -> x.online(0, 1));
        Check.due(true, () -> x.isSpoilt(0, 1, 0));
        Check.due(true, () -> x.isSpoilt(0, 1, 1));
        x.spoil(1, 0, 0);
        x.offline(1, 0);
        Check.due(0, () -> x.online(1, 0));
        Check.due(true, () -> x.isSpoilt(1, 0, 0));
    }

    private static void birthOneGreaterThanTheOutage() {
        Check.promise("13 online, a birth that is greater than the outage by 1");
        int[] due = {2, 1, 2};
        for (int nth = 0; nth < 6; nth++) {
            int mirror = nth / 2;
            int side = nth % 2;
            Zfsmill x = Pools.oneBlock();
            x.offline(mirror, side);
            syncSecondBlock(x);
            Check.due(2, () -> x.birth(0, 1));
            Check.due(due[mirror], () -> x.online(mirror, side));
        }
    }

    private static void emptySyncsBeforeAndWithinTheOutage() {
        Check.promise("13 online, the outage is the number of the open group less 1");
        Zfsmill x = Pools.oneBlock();
        x.sync();
        x.sync();
        x.sync();
        x.spoil(0, 1, 0);
        x.offline(0, 1);
        x.sync();
        x.sync();
        Check.due(0, () -> x.online(0, 1));
        Check.due(true, () -> x.isSpoilt(0, 1, 0));
        x.offline(0, 1);
        syncSecondBlock(x);
        Check.due(7, () -> x.birth(0, 1));
        Check.due(2, () -> x.online(0, 1));
        Check.due(true, () -> x.isSpoilt(0, 1, 0));
        Zfsmill y = new Zfsmill();
        y.sync();
        y.sync();
        y.offline(0, 0);
        y.write(0, 0, 5);
        y.sync();
        Check.due(2, () -> y.online(0, 0));
    }

    private static void olderBlockUnderANewerNode() {
        Check.promise("13 online, an older block under a newer node");
        Zfsmill x = Pools.oneBlock();
        x.spoil(0, 1, 0);
        x.offline(0, 1);
        syncSecondBlock(x);
        Check.due(2, () -> x.online(0, 1));
        Check.due(true, () -> x.isSpoilt(0, 1, 0));
        Check.due(false, () -> x.isSpoilt(0, 1, 2));
        Check.due(false, () -> x.isSpoilt(0, 1, 3));
    }

    /** The older file is passed over, with its block and its node. */
    private static void olderFileUnderANewerRoot() {
        Check.promise("13 online, an older file under a newer root node");
        Zfsmill x = new Zfsmill();
        x.setCopies(0, 2);
        x.write(0, 0, 5);
        x.sync();
        // The block at 0 and 100, its node at 200 and 1, the root node at 101 and 201.
        Check.due(1, () -> x.nodePlace(0, 1));
        x.spoil(0, 1, 0);
        x.spoil(0, 1, 1);
        x.offline(0, 1);
        x.write(3, 0, 6);
        x.sync();
        // From 38 38 38: the block at 2, its node at 102 and 202, the root node at 3 and 103.
        Check.due(2, () -> x.place(3, 0, 0));
        Check.due(3, () -> x.rootPlace(0));
        Check.due(2, () -> x.online(0, 1));
        Check.due(true, () -> x.isSpoilt(0, 1, 0));
        Check.due(true, () -> x.isSpoilt(0, 1, 1));
        Check.due(false, () -> x.isSpoilt(0, 1, 2));
        Check.due(false, () -> x.isSpoilt(0, 1, 3));
    }

    private static void missingPointersArePassedOver() {
        Check.promise("13 online, a pointer that is missing");
        Zfsmill x = Pools.oneBlock();
        x.offline(0, 1);
        x.punch(0, 0, 0);
        Check.due(0, x::sync);
        Check.due(0, () -> x.online(0, 1));
        Zfsmill y = Pools.oneBlock();
        y.write(1, 0, 6);
        y.sync();
        y.offline(0, 1);
        y.offline(1, 1);
        y.offline(2, 1);
        y.punch(0, 0, 0);
        Check.due(2, y::sync);
        // All that is newer is the root node; the file 1 is older, the file 0 is missing.
        Check.due(2, () -> y.online(0, 1) + y.online(1, 1) + y.online(2, 1));
    }

    /** 48 blocks, four nodes and the root node with two places each: 36, 35 and 35 of them. */
    private static void allBlocksAreCopied() {
        Check.promise("13 online, each of its places on this mirror, once");
        int[] due = {36, 35, 35};
        for (int nth = 0; nth < 6; nth++) {
            int mirror = nth / 2;
            int side = nth % 2;
            Zfsmill x = new Zfsmill();
            x.offline(mirror, side);
            for (int file = 0; file < 4; file++) {
                x.setCopies(file, 2);
                for (int block = 0; block < 12; block++) {
                    x.write(file, block, 1 + block);
                }
            }
            Check.due(106, x::sync);
            Check.due(40 - due[mirror], () -> x.free(mirror));
            Check.due(due[mirror], () -> x.online(mirror, side));
            x.offline(mirror, 1 - side);
            Check.due(0, x::lost);
            Check.due(12, () -> x.read(3, 11));
            Check.due(0, x::healed);
        }
    }

    private static void copiesOfASinglePlace() {
        Check.promise("13 online, spoilt if it is spoilt on the other side");
        for (int nth = 0; nth < 4; nth++) {
            int side = nth % 2;
            boolean spoilt = nth >= 2;
            Zfsmill x = new Zfsmill();
            x.offline(0, side);
            x.write(0, 0, 5);
            x.sync();
            if (spoilt) {
                x.spoil(0, 1 - side, 0);
            }
            Check.due(2, () -> x.online(0, side));
            Check.due(spoilt, () -> x.isSpoilt(0, side, 0));
            Check.due(spoilt, () -> x.isSpoilt(0, 1 - side, 0));
            Check.due(false, () -> x.isSpoilt(0, side, 1));
            Check.due(spoilt ? 1 : 0, x::lost);
        }
    }

    /**
     * The node lies at 2 and 102, each of which comes back in turn. Spoilt are any of the three
     * other cells, and on the other mirror any side may be away: what it has there counts not.
     */
    private static void copiesOfOneOfTwoPlaces() {
        Check.promise("13 online, and at the other place on all online sides of that mirror");
        for (int nth = 0; nth < 2 * 2 * 8 * 3; nth++) {
            int mirror = nth % 2;
            int other = 1 - mirror;
            int side = nth / 2 % 2;
            int spoilt = nth / 4 % 8;
            int away = nth / 32 - 1;
            Zfsmill x = Pools.oneBlock();
            x.offline(mirror, side);
            syncSecondBlock(x);
            boolean due = (spoilt & 1) != 0;
            if ((spoilt & 1) != 0) {
                x.spoil(mirror, 1 - side, 2);
            }
            for (int each = 0; each < 2; each++) {
                boolean isSpoilt = (spoilt >> each & 2) != 0;
                if (isSpoilt) {
                    x.spoil(other, each, 2);
                }
                due &= isSpoilt || each == away;
            }
            if (away >= 0) {
                x.offline(other, away);
            }
            boolean dueThere = due;
            Check.due(mirror == 0 ? 2 : 1, () -> x.online(mirror, side));
            Check.due(dueThere, () -> x.isSpoilt(mirror, side, 2));
            Check.due((spoilt & 1) != 0, () -> x.isSpoilt(mirror, 1 - side, 2));
            Check.due(0, x::healed);
        }
    }

    /** All cells of the root node and of the node that are there are spoilt; the block is not. */
    private static void nodesThatCannotBeRead() {
        Check.promise("13 online, whether or not its nodes could be read");
        Zfsmill x = new Zfsmill();
        x.offline(0, 1);
        x.write(0, 0, 5);
        x.sync();
        // The block lies at 0, its node at 100 and 200, the root node at 1 and 101.
        x.spoil(0, 0, 1);
        Pools.spoilBothSides(x, 101);
        Pools.spoilBothSides(x, 100);
        Pools.spoilBothSides(x, 200);
        Check.due(1, x::lost);
        Check.due(2, () -> x.online(0, 1));
        Check.due(false, () -> x.isSpoilt(0, 1, 0));
        Check.due(true, () -> x.isSpoilt(0, 1, 1));
        Check.due(1, x::lost);
    }

    private static void cellsThatWereSpoiltBefore() {
        Check.promise("13 online, all other cells are as they were");
        Zfsmill x = Pools.oneBlock();
        x.spoil(0, 1, 0);
        x.spoil(0, 0, 1);
        x.offline(0, 1);
        // The spoilt cell that is away is not healed, only that of the root node.
        Check.due(1, x::scrub);
        Check.due(5, () -> x.read(0, 0));
        Check.due(1, x::healed);
        x.spoil(0, 0, 0);
        Check.due(Check.BAD_STATE, () -> x.read(0, 0));
        Check.due(0, () -> x.online(0, 1));
        Check.due(true, () -> x.isSpoilt(0, 1, 0));
        Check.due(false, () -> x.isSpoilt(0, 1, 1));
        Check.due(false, () -> x.isSpoilt(0, 0, 1));
        Zfsmill y = Pools.oneBlock();
        y.offline(0, 1);
        y.spoil(0, 0, 0);
        Check.due(1, y::lost);
        Check.due(0, () -> y.online(0, 1));
        Check.due(0, y::lost);
        Check.due(5, () -> y.read(0, 0));
        Check.due(1, y::healed);
    }

    /** What a spoilt cell held was freed, and it is written anew during the outage or behind. */
    private static void cellsThatWereFreeBefore() {
        Check.promise("13 online, cells that were used anew");
        for (int way = 0; way < 2; way++) {
            Zfsmill x = Pools.oneBlock();
            x.spoil(0, 1, 0);
            x.spoil(0, 1, 1);
            if (way == 0) {
                x.offline(0, 1);
            }
            x.punch(0, 0, 0);
            x.sync();
            if (way == 1) {
                x.offline(0, 1);
            }
            x.write(0, 0, 6);
            x.sync();
            Check.due(0, () -> x.place(0, 0, 0));
            Check.due(1, () -> x.rootPlace(0));
            Check.due(2, () -> x.online(0, 1));
            Check.due(false, () -> x.isSpoilt(0, 1, 0));
            Check.due(false, () -> x.isSpoilt(0, 1, 1));
            x.offline(0, 0);
            Check.due(6, () -> x.read(0, 0));
            Check.due(0, x::healed);
        }
    }

    private static void cellsThatWereWrittenTwice() {
        Check.promise("13 online, only what is pointed to is copied");
        Zfsmill x = Pools.oneBlock();
        x.offline(0, 1);
        for (int value = 1; value < 8; value++) {
            x.write(0, 0, value);
            x.sync();
        }
        int due = 0;
        for (int place : new int[] {x.place(0, 0, 0), x.nodePlace(0, 0), x.nodePlace(0, 1),
            x.rootPlace(0), x.rootPlace(1)}) {
            due += place < 100 ? 1 : 0;
        }
        int places = due;
        Check.due(places, () -> x.online(0, 1));
        x.offline(0, 0);
        Check.due(7, () -> x.read(0, 0));
    }

    private static void secondOutage() {
        Check.promise("13 online, a second outage");
        Zfsmill x = Pools.oneBlock();
        x.offline(0, 1);
        syncSecondBlock(x);
        Check.due(2, () -> x.online(0, 1));
        x.spoil(0, 1, 2);
        x.offline(0, 1);
        Check.due(0, () -> x.online(0, 1));
        Check.due(true, () -> x.isSpoilt(0, 1, 2));
        x.offline(0, 1);
        // From 37 39 38 free cells: the block at 100, its node at 101 and 200, the root at 1, 103.
        x.write(1, 0, 7);
        x.sync();
        Check.due(100, () -> x.place(1, 0, 0));
        Check.due(101, () -> x.nodePlace(1, 0));
        Check.due(1, () -> x.rootPlace(0));
        Check.due(1, () -> x.online(0, 1));
        Check.due(true, () -> x.isSpoilt(0, 1, 2));
    }

    private static void outagesOfSeveralMirrors() {
        Check.promise("13 online, each side has an outage of its own");
        Zfsmill x = Pools.oneBlock();
        x.offline(0, 0);
        syncSecondBlock(x);
        x.offline(2, 1);
        x.punch(3, 3, 3);
        // The root node alone is written: from 37 39 38 free cells at 100 and 200.
        Check.due(2, x::sync);
        Check.due(100, () -> x.rootPlace(0));
        Check.due(200, () -> x.rootPlace(1));
        Check.due(1, () -> x.online(2, 1));
        Check.due(1, () -> x.online(0, 0));
        Check.due(false, () -> x.isSpoilt(0, 0, 2));
        Check.due(Check.BAD_STATE, () -> x.online(0, 0));
        Check.due(Check.BAD_STATE, () -> x.online(2, 1));
    }

    /** What the one side missed is not copied to the other one, and the other way round. */
    private static void outagesOfBothSidesInTurn() {
        Check.promise("13 online, each side has an outage of its own");
        Zfsmill x = Pools.oneBlock();
        x.offline(0, 0);
        syncSecondBlock(x);
        Check.due(2, () -> x.online(0, 0));
        x.offline(0, 1);
        Check.due(0, () -> x.online(0, 1));
        x.offline(0, 1);
        x.punch(3, 3, 3);
        x.sync();
        x.write(1, 0, 7);
        x.sync();
        int copied = x.online(0, 1);
        Check.due(true, () -> copied > 0);
        x.offline(0, 0);
        Check.due(5, () -> x.read(0, 0));
        Check.due(6, () -> x.read(0, 1));
        Check.due(7, () -> x.read(1, 0));
        Check.due(0, x::healed);
        Check.due(0, () -> x.online(0, 0));
    }

    private static void oneSideOfEachMirrorAtMost() {
        Check.promise("12 offline, at least one side of each mirror is online");
        Zfsmill x = Pools.oneBlock();
        for (int mirror = 0; mirror < 3; mirror++) {
            int m = mirror;
            int side = mirror % 2;
            Check.dueOf(null, () -> x.offline(m, side));
            Check.dueOf(Check.BAD_STATE, () -> x.offline(m, side));
            Check.dueOf(Check.BAD_STATE, () -> x.offline(m, 1 - side));
            Check.due(false, () -> x.isSpoilt(m, 1 - side, 0));
        }
        Check.due(5, () -> x.read(0, 0));
        Check.due(5, () -> x.write(0, 0, 6));
        Check.due(5, x::sync);
        Check.due(6, () -> x.read(0, 0));
        for (int mirror = 0; mirror < 3; mirror++) {
            int m = mirror;
            Check.due(Check.BAD_STATE, () -> x.online(m, 1 - m % 2));
            // The block at 201, its node at 2 and 102, the root node at 202 and 3.
            Check.due(m == 1 ? 1 : 2, () -> x.online(m, m % 2));
            Check.dueOf(null, () -> x.offline(m, 1 - m % 2));
        }
        Check.due(6, () -> x.read(0, 0));
    }

    private static void onlyThatSideChanges() {
        Check.promise("13 online, copied to this side");
        Zfsmill x = Pools.oneBlock();
        x.offline(0, 1);
        syncSecondBlock(x);
        x.spoil(0, 0, 2);
        x.spoil(1, 0, 2);
        x.spoil(2, 1, 1);
        Check.due(2, () -> x.online(0, 1));
        Check.due(false, () -> x.isSpoilt(0, 1, 2));
        Check.due(true, () -> x.isSpoilt(0, 0, 2));
        Check.due(true, () -> x.isSpoilt(1, 0, 2));
        Check.due(false, () -> x.isSpoilt(1, 1, 2));
        Check.due(true, () -> x.isSpoilt(2, 1, 1));
        Check.due(0, x::healed);
        Check.due(3, x::scrub);
    }

    private static void bufferedChangesAreNotCopied() {
        Check.promise("13 online, with changes buffered");
        Zfsmill x = Pools.oneBlock();
        x.offline(0, 1);
        x.write(0, 0, 6);
        x.punch(1, 0, 11);
        Check.due(0, () -> x.online(0, 1));
        Check.due(13, x::buffered);
        Check.due(6, () -> x.read(0, 0));
        Check.due(2, x::group);
        x.sync();
        x.offline(0, 0);
        Check.due(6, () -> x.read(0, 0));
        Check.due(0, x::healed);
    }
}
