/**
 * "If several exceptions apply, the one that is documented first is thrown": each call with more
 * than one exception, with arguments out of range in a state that rules it out as well.
 */
public final class FirstExceptionTest {
    public static void main(String[] args) {
        read();
        nextData();
        offline();
        online();
        spoil();
        isSpoilt();
        place();
        nodePlace();
        Check.end();
    }

    private static void read() {
        Check.promise("5 read");
        Zfsmill x = Pools.oneBlock();
        Pools.spoilBothSides(x, 1);
        Pools.spoilBothSides(x, 101);
        Check.due(Check.BAD_STATE, () -> x.read(0, 11));
        Check.due(Check.BAD_ARGUMENT, () -> x.read(0, 12));
        Check.due(Check.BAD_ARGUMENT, () -> x.read(0, -1));
        Check.due(Check.BAD_ARGUMENT, () -> x.read(4, 0));
        Check.due(Check.BAD_ARGUMENT, () -> x.read(-1, 0));
    }

    private static void nextData() {
        Check.promise("6 nextData");
        Zfsmill x = new Zfsmill();
        Check.due(Check.NO_ELEMENT, () -> x.nextData(0, 11));
        Check.due(Check.BAD_ARGUMENT, () -> x.nextData(0, 12));
        Check.due(Check.BAD_ARGUMENT, () -> x.nextData(0, -1));
        Check.due(Check.BAD_ARGUMENT, () -> x.nextData(4, 0));
        Check.due(Check.BAD_ARGUMENT, () -> x.nextData(-1, 0));
    }

    private static void offline() {
        Check.promise("12 offline");
        Zfsmill x = new Zfsmill();
        for (int mirror = 0; mirror < 3; mirror++) {
            int m = mirror;
            x.offline(m, 0);
            Check.dueOf(Check.BAD_STATE, () -> x.offline(m, 1));
            Check.dueOf(Check.BAD_ARGUMENT, () -> x.offline(m, 2));
            Check.dueOf(Check.BAD_ARGUMENT, () -> x.offline(m, -1));
        }
        Check.dueOf(Check.BAD_ARGUMENT, () -> x.offline(-1, 0));
        Check.dueOf(Check.BAD_ARGUMENT, () -> x.offline(3, 0));
    }

    private static void online() {
        Check.promise("13 online");
        Zfsmill x = new Zfsmill();
        for (int mirror = 0; mirror < 3; mirror++) {
            int m = mirror;
            Check.due(Check.BAD_STATE, () -> x.online(m, 1));
            Check.due(Check.BAD_ARGUMENT, () -> x.online(m, 2));
            Check.due(Check.BAD_ARGUMENT, () -> x.online(m, -1));
        }
        Check.due(Check.BAD_ARGUMENT, () -> x.online(-1, 0));
        Check.due(Check.BAD_ARGUMENT, () -> x.online(3, 0));
    }

    private static void spoil() {
        Check.promise("14 spoil");
        Zfsmill x = Pools.oneBlock();
        x.offline(0, 0);
        Check.due(Check.BAD_STATE, () -> x.spoil(0, 0, 0));
        Check.due(Check.BAD_ARGUMENT, () -> x.spoil(0, 0, -1));
        Check.due(Check.BAD_ARGUMENT, () -> x.spoil(0, 0, 40));
        Check.due(Check.BAD_STATE, () -> x.spoil(1, 0, 39));
        Check.due(Check.BAD_ARGUMENT, () -> x.spoil(1, 0, 40));
        Check.due(Check.BAD_ARGUMENT, () -> x.spoil(1, 2, 39));
        Check.due(Check.BAD_ARGUMENT, () -> x.spoil(1, -1, 39));
        Check.due(Check.BAD_ARGUMENT, () -> x.spoil(-1, 0, 39));
        Check.due(Check.BAD_ARGUMENT, () -> x.spoil(3, 0, 39));
    }

    private static void isSpoilt() {
        Check.promise("15 isSpoilt");
        Zfsmill x = Pools.oneBlock();
        x.offline(0, 0);
        x.offline(2, 1);
        Check.due(Check.BAD_STATE, () -> x.isSpoilt(0, 0, 0));
        Check.due(Check.BAD_ARGUMENT, () -> x.isSpoilt(0, 0, -1));
        Check.due(Check.BAD_ARGUMENT, () -> x.isSpoilt(0, 0, 40));
        Check.due(Check.BAD_STATE, () -> x.isSpoilt(2, 1, 39));
        Check.due(Check.BAD_ARGUMENT, () -> x.isSpoilt(2, 1, 40));
        Check.due(Check.BAD_ARGUMENT, () -> x.isSpoilt(2, 2, 39));
        Check.due(Check.BAD_ARGUMENT, () -> x.isSpoilt(0, -1, 0));
    }

    private static void place() {
        Check.promise("22 place");
        Zfsmill x = Pools.oneBlock();
        for (int place : new int[] {-1, 1, 2}) {
            Check.due(Check.NO_ELEMENT, () -> x.place(0, 0, place));
            Check.due(Check.BAD_ARGUMENT, () -> x.place(-1, 0, place));
            Check.due(Check.BAD_ARGUMENT, () -> x.place(4, 0, place));
            Check.due(Check.BAD_ARGUMENT, () -> x.place(0, -1, place));
            Check.due(Check.BAD_ARGUMENT, () -> x.place(0, 12, place));
        }
    }

    private static void nodePlace() {
        Check.promise("23 nodePlace");
        Zfsmill x = Pools.oneBlock();
        for (int place : new int[] {-1, 2}) {
            Check.due(Check.NO_ELEMENT, () -> x.nodePlace(0, place));
            Check.due(Check.BAD_ARGUMENT, () -> x.nodePlace(-1, place));
            Check.due(Check.BAD_ARGUMENT, () -> x.nodePlace(4, place));
        }
    }
}
