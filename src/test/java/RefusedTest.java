/**
 * Calls that the state rules out, for each exception of each call that is not about a range: they
 * throw it and change nothing. The ranges are in BoundsTest.
 */
public final class RefusedTest {
    private static final int[] NO_PLACES = {-1, 2, 3, Integer.MIN_VALUE, Integer.MAX_VALUE};

    public static void main(String[] args) {
        readOfUnreadablePointers();
        nextDataWithoutData();
        syncWithoutRoom();
        offlineBesideAnOfflineSide();
        onlineOfAnOnlineSide();
        spoilOnAnOfflineSide();
        spoilOfAFreeCell();
        isSpoiltOnAnOfflineSide();
        placeThatIsNone();
        nodePlaceThatIsNone();
        rootPlaceThatIsNone();
        Check.end();
    }

    // read

    private static void readOfUnreadablePointers() {
        Check.promise("5 read");
        Twins.refused(Check.BAD_STATE, RefusedTest::rootIsLost, x -> x.read(0, 0));
        Twins.refused(Check.BAD_STATE, RefusedTest::rootIsLost, x -> x.read(0, 11));
        Twins.refused(Check.BAD_STATE, RefusedTest::rootIsLost, x -> x.read(3, 11));
        Twins.refused(Check.BAD_STATE, RefusedTest::nodeIsLost, x -> x.read(0, 0));
        Twins.refused(Check.BAD_STATE, RefusedTest::nodeIsLost, x -> x.read(0, 11));
        Twins.refused(Check.BAD_STATE, RefusedTest::blockIsLost, x -> x.read(0, 0));
        Twins.refused(Check.BAD_STATE, RefusedTest::blockIsLostToOffline, x -> x.read(0, 0));
    }

    /** All cells of one pointer are spoilt, and one of each pointer before and behind it. */
    private static Zfsmill rootIsLost() {
        Zfsmill x = Pools.oneBlock();
        Pools.spoilBothSides(x, 1);
        Pools.spoilBothSides(x, 101);
        Pools.spoil(x, 100, 0);
        Pools.spoil(x, 0, 0);
        return x;
    }

    private static Zfsmill nodeIsLost() {
        Zfsmill x = Pools.oneBlock();
        Pools.spoilBothSides(x, 100);
        Pools.spoilBothSides(x, 200);
        Pools.spoil(x, 1, 0);
        Pools.spoil(x, 0, 0);
        return x;
    }

    private static Zfsmill blockIsLost() {
        Zfsmill x = Pools.oneBlock();
        Pools.spoilBothSides(x, 0);
        Pools.spoil(x, 1, 0);
        Pools.spoilBothSides(x, 100);
        return x;
    }

    /** The good cell of the block is on the side that is away. */
    private static Zfsmill blockIsLostToOffline() {
        Zfsmill x = Pools.oneBlock();
        Pools.spoil(x, 0, 0);
        Pools.spoil(x, 1, 0);
        Pools.spoil(x, 100, 0);
        x.offline(0, 1);
        return x;
    }

    // nextData

    private static void nextDataWithoutData() {
        Check.promise("6 nextData");
        Twins.refused(Check.NO_ELEMENT, Zfsmill::new, x -> x.nextData(0, 0));
        Twins.refused(Check.NO_ELEMENT, Pools::oneBlock, x -> x.nextData(0, 1));
        Twins.refused(Check.NO_ELEMENT, Pools::oneBlock, x -> x.nextData(0, 11));
        Twins.refused(Check.NO_ELEMENT, Pools::busy, x -> x.nextData(2, 0));
        Twins.refused(Check.NO_ELEMENT, Pools::busy, x -> x.nextData(1, 2));
    }

    // sync

    private static void syncWithoutRoom() {
        Check.promise("8 sync");
        Twins.refused(Check.BAD_STATE, RefusedTest::noRoomForTheRoot, Zfsmill::sync);
        Twins.refused(Check.BAD_STATE, RefusedTest::noRoomForTheRoot, x -> {
            Check.due(Check.BAD_STATE, x::sync);
            return x.sync();
        });
        Twins.refused(Check.BAD_STATE, RefusedTest::noRoomForASecondPlace, Zfsmill::sync);
        Twins.refused(Check.BAD_STATE, () -> {
            Zfsmill x = Pools.fullMirror0();
            for (int block = 0; block < 6; block++) {
                x.write(3, block, 7);
            }
            return x;
        }, Zfsmill::sync);
    }

    private static Zfsmill noRoomForTheRoot() {
        Zfsmill x = Pools.allBlocks();
        x.setCopies(1, 1);
        x.punch(2, 3, 4);
        for (int block = 0; block < 3; block++) {
            x.write(3, block, 7);
        }
        x.write(0, 0, 7);
        x.offline(1, 1);
        Pools.spoil(x, x.place(0, 0, 0), 0);
        return x;
    }

    private static Zfsmill noRoomForASecondPlace() {
        Zfsmill x = Pools.skewed();
        for (int block = 0; block < 8; block++) {
            x.write(2, block, 6);
            x.write(3, block, 6);
        }
        return x;
    }

    // offline and online

    private static Zfsmill sideIsAway(int mirror, int side) {
        Zfsmill x = Pools.oneBlock();
        x.offline(mirror, side);
        x.write(1, 1, 6);
        x.sync();
        Pools.spoil(x, x.rootPlace(0), 1 - side);
        x.write(1, 2, 7);
        return x;
    }

    private static void offlineBesideAnOfflineSide() {
        Check.promise("12 offline");
        for (int nth = 0; nth < 6; nth++) {
            int mirror = nth / 2;
            int side = nth % 2;
            Twins.Recipe recipe = () -> {
                Zfsmill x = Pools.oneBlock();
                x.offline(mirror, side);
                x.write(1, 1, 6);
                x.sync();
                return x;
            };
            for (int each = 0; each < 2; each++) {
                int other = each;
                Twins.refused(Check.BAD_STATE, recipe, x -> {
                    x.offline(mirror, other);
                    return null;
                });
            }
        }
    }

    private static void onlineOfAnOnlineSide() {
        Check.promise("13 online");
        Twins.refused(Check.BAD_STATE, Zfsmill::new, x -> x.online(0, 0));
        Twins.refused(Check.BAD_STATE, Zfsmill::new, x -> x.online(2, 1));
        Twins.refused(Check.BAD_STATE, () -> sideIsAway(0, 0), x -> x.online(0, 1));
        Twins.refused(Check.BAD_STATE, () -> sideIsAway(0, 0), x -> x.online(1, 0));
        Twins.refused(Check.BAD_STATE, () -> sideIsAway(0, 1), x -> x.online(0, 0));
        Twins.refused(Check.BAD_STATE, () -> sideIsAway(2, 0), x -> x.online(2, 1));
        Twins.refused(Check.BAD_STATE, () -> {
            Zfsmill x = sideIsAway(1, 0);
            x.online(1, 0);
            return x;
        }, x -> x.online(1, 0));
    }

    // spoil and isSpoilt

    private static void spoilOnAnOfflineSide() {
        Check.promise("14 spoil");
        Twins.refused(Check.BAD_STATE, () -> sideIsAway(0, 0), x -> x.spoil(0, 0, 0));
        Twins.refused(Check.BAD_STATE, () -> sideIsAway(1, 1), x -> x.spoil(1, 1, 0));
        Twins.refused(Check.BAD_STATE, () -> sideIsAway(2, 0), x -> x.spoil(2, 0, 39));
    }

    private static void spoilOfAFreeCell() {
        Check.promise("14 spoil");
        Twins.refused(Check.BAD_STATE, Zfsmill::new, x -> x.spoil(0, 0, 0));
        Twins.refused(Check.BAD_STATE, Pools::oneBlock, x -> x.spoil(2, 0, 1));
        Twins.refused(Check.BAD_STATE, Pools::oneBlock, x -> x.spoil(0, 1, 2));
        Twins.refused(Check.BAD_STATE, Pools::oneBlock, x -> x.spoil(2, 1, 39));
        // What is freed by the change of the block is written to again later.
        Twins.Recipe freed = () -> {
            Zfsmill x = Pools.oneBlock();
            x.write(0, 0, 6);
            x.sync();
            x.write(0, 0, 7);
            return x;
        };
        Twins.refused(Check.BAD_STATE, freed, x -> x.spoil(0, 0, 0));
        Twins.refused(Check.BAD_STATE, freed, x -> x.spoil(1, 1, 1));
    }

    private static void isSpoiltOnAnOfflineSide() {
        Check.promise("15 isSpoilt");
        Twins.refused(Check.BAD_STATE, () -> sideIsAway(0, 0), x -> x.isSpoilt(0, 0, 0));
        Twins.refused(Check.BAD_STATE, () -> sideIsAway(1, 1), x -> x.isSpoilt(1, 1, 39));
        Twins.refused(Check.BAD_STATE, () -> sideIsAway(2, 1), x -> x.isSpoilt(2, 1, 0));
    }

    // place, nodePlace and rootPlace

    private static void placeThatIsNone() {
        Check.promise("22 place");
        for (int place : NO_PLACES) {
            Twins.refused(Check.NO_ELEMENT, Pools::busy, x -> x.place(0, 0, place));
            Twins.refused(Check.NO_ELEMENT, Pools::busy, x -> x.place(1, 0, place));
            Twins.refused(Check.NO_ELEMENT, Pools::allBlocks, x -> x.place(3, 11, place));
        }
        Twins.refused(Check.NO_ELEMENT, Pools::busy, x -> x.place(0, 0, 1));
        for (int place = 0; place < 2; place++) {
            int nth = place;
            Twins.refused(Check.NO_ELEMENT, Zfsmill::new, x -> x.place(0, 0, nth));
            Twins.refused(Check.NO_ELEMENT, Pools::busy, x -> x.place(1, 5, nth));
        }
    }

    private static void nodePlaceThatIsNone() {
        Check.promise("23 nodePlace");
        for (int place : NO_PLACES) {
            Twins.refused(Check.NO_ELEMENT, Pools::busy, x -> x.nodePlace(0, place));
            Twins.refused(Check.NO_ELEMENT, Pools::allBlocks, x -> x.nodePlace(3, place));
        }
        for (int place = 0; place < 2; place++) {
            int nth = place;
            Twins.refused(Check.NO_ELEMENT, Zfsmill::new, x -> x.nodePlace(0, nth));
            Twins.refused(Check.NO_ELEMENT, Pools::busy, x -> x.nodePlace(2, nth));
        }
    }

    private static void rootPlaceThatIsNone() {
        Check.promise("24 rootPlace");
        for (int place : NO_PLACES) {
            Twins.refused(Check.NO_ELEMENT, Pools::busy, x -> x.rootPlace(place));
            Twins.refused(Check.NO_ELEMENT, Pools::allBlocks, x -> x.rootPlace(place));
        }
        Twins.refused(Check.NO_ELEMENT, Zfsmill::new, x -> x.rootPlace(0));
        Twins.refused(Check.NO_ELEMENT, Zfsmill::new, x -> x.rootPlace(1));
    }
}
