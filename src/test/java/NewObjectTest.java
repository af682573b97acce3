/** Promise 1. */
public final class NewObjectTest {
    public static void main(String[] args) {
        Check.promise("1 a new object");
        numbersAreAtTheirStart();
        allBlocksAreHoles();
        nothingIsPointedTo();
        allCellsAreFree();
        allSidesAreOnline();
        objectsShareNothing();
        Check.end();
    }

    private static void numbersAreAtTheirStart() {
        Zfsmill x = new Zfsmill();
        Check.due(1, x::group);
        Check.due(0, x::buffered);
        Check.due(0, x::healed);
        Check.due(0, x::lost);
        Check.due(0, x::scrub);
        Check.due(0, x::abandon);
        Check.due(1, x::group);
        for (int file = 0; file < 4; file++) {
            int f = file;
            Check.due(1, () -> x.setCopies(f, 1));
        }
    }

    private static void allBlocksAreHoles() {
        Zfsmill x = new Zfsmill();
        for (int file = 0; file < 4; file++) {
            int f = file;
            Check.due(Check.NO_ELEMENT, () -> x.nextData(f, 0));
            for (int block = 0; block < 12; block++) {
                int b = block;
                Check.due(0, () -> x.read(f, b));
                Check.due(b, () -> x.nextHole(f, b));
            }
        }
    }

    private static void nothingIsPointedTo() {
        Zfsmill x = new Zfsmill();
        Check.due(Check.NO_ELEMENT, () -> x.rootPlace(0));
        Check.due(0, x::rootChecksum);
        for (int file = 0; file < 4; file++) {
            int f = file;
            Check.due(Check.NO_ELEMENT, () -> x.nodePlace(f, 0));
            Check.due(0, () -> x.checksum(f));
            for (int block = 0; block < 12; block++) {
                int b = block;
                Check.due(0, () -> x.places(f, b));
                Check.due(0, () -> x.birth(f, b));
                Check.due(Check.NO_ELEMENT, () -> x.place(f, b, 0));
            }
        }
    }

    private static void allCellsAreFree() {
        Zfsmill x = new Zfsmill();
        for (int mirror = 0; mirror < 3; mirror++) {
            int m = mirror;
            Check.due(40, () -> x.free(m));
            for (int cell = 0; cell < 40; cell++) {
                int c = cell;
                Check.due(true, () -> x.isFree(m, c));
            }
        }
    }

    private static void allSidesAreOnline() {
        Zfsmill x = new Zfsmill();
        for (int mirror = 0; mirror < 3; mirror++) {
            for (int side = 0; side < 2; side++) {
                int m = mirror;
                int s = side;
                Check.due(Check.BAD_STATE, () -> x.online(m, s));
                Check.due(false, () -> x.isSpoilt(m, s, 39));
            }
        }
    }

    private static void objectsShareNothing() {
        Zfsmill one = new Zfsmill();
        Zfsmill other = new Zfsmill();
        one.setCopies(0, 2);
        one.write(0, 0, 7);
        one.sync();
        one.offline(0, 0);
        one.write(0, 0, 8);
        Check.due(0, other::buffered);
        Check.due(1, other::group);
        Check.due(40, () -> other.free(0));
        Check.due(0, () -> other.read(0, 0));
        Check.due(1, () -> other.setCopies(0, 1));
        Check.due(Check.BAD_STATE, () -> other.online(0, 0));
    }
}
