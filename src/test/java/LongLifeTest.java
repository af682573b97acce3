/** "An object is used for at most 512 calls": the last of them are answered like the first. */
public final class LongLifeTest {
    public static void main(String[] args) {
        emptySyncs();
        syncsOfChanges();
        birthsAndOutagesInLateGroups();
        refusedCalls();
        abandonedChanges();
        spoiltAndHealed();
        outages();
        Check.end();
    }

    private static void emptySyncs() {
        Check.promise("10 group, after 511 calls");
        Zfsmill x = new Zfsmill();
        for (int call = 1; call <= 511; call++) {
            x.sync();
        }
        Check.due(512, x::group);
    }

    /** 255 times a write and its sync, and two calls more. */
    private static void syncsOfChanges() {
        Check.promise("8 sync, at the end of 512 calls");
        Zfsmill x = new Zfsmill();
        for (int group = 1; group <= 254; group++) {
            x.write(0, 0, group);
            x.sync();
        }
        Check.due(254, () -> x.write(0, 0, 9999));
        Check.due(5, x::sync);
        Check.due(255, () -> x.birth(0, 0));
        Check.due(38, () -> x.free(0));
        Zfsmill y = new Zfsmill();
        for (int group = 1; group <= 255; group++) {
            y.write(3, 11, group);
            y.sync();
        }
        Check.due(255, () -> y.read(3, 11));
        Check.due(255, () -> y.birth(3, 11));
    }

    private static void birthsAndOutagesInLateGroups() {
        Check.promise("13 online and 25 birth, in late groups");
        for (int groups : new int[] {126, 127, 128, 254, 255, 256, 257, 480}) {
            Zfsmill x = new Zfsmill();
            for (int group = 1; group < groups; group++) {
                x.sync();
            }
            x.write(0, 0, 5);
            x.sync();
            Check.due(groups, () -> x.birth(0, 0));
            x.spoil(0, 1, 0);
            x.offline(0, 1);
            Check.due(0, () -> x.online(0, 1));
            Check.due(true, () -> x.isSpoilt(0, 1, 0));
            x.offline(0, 1);
            x.write(0, 1, 6);
            x.sync();
            Check.due(groups, () -> x.birth(0, 0));
            Check.due(groups + 1, () -> x.birth(0, 1));
            Check.due(2, () -> x.online(0, 1));
            Check.due(true, () -> x.isSpoilt(0, 1, 0));
            int first = (31 * 5 + 17 + groups + 131) % 65521;
            long sum = (first * 131L + 31 * 6 + 17 + groups + 1) % 65521;
            for (int block = 2; block < 12; block++) {
                sum = sum * 131 % 65521;
            }
            int due = (int) sum;
            Check.due(due, () -> x.checksum(0));
        }
    }

    private static void refusedCalls() {
        Check.promise("8 sync, refused time and again");
        Zfsmill x = Pools.allBlocks();
        for (int block = 0; block < 6; block++) {
            x.write(3, block, 7);
        }
        for (int call = 60; call < 508; call++) {
            Check.due(Check.BAD_STATE, x::sync);
        }
        Check.due(6, x::buffered);
        x.punch(3, 5, 5);
        Check.due(14, x::sync);
        Check.due(3, x::group);
    }

    private static void abandonedChanges() {
        Check.promise("9 abandon, time and again");
        Zfsmill x = Pools.oneBlock();
        for (int nth = 0; nth < 250; nth++) {
            x.punch(nth % 4, 0, 11);
            Check.due(12, x::abandon);
        }
        Check.due(2, x::group);
        Check.due(5, () -> x.read(0, 0));
    }

    private static void spoiltAndHealed() {
        Check.promise("19 healed, time and again");
        Zfsmill x = Pools.oneBlock();
        for (int nth = 1; nth <= 250; nth++) {
            x.spoil(0, 0, 0);
            x.read(0, 0);
        }
        Check.due(250, x::healed);
        x.spoil(0, 1, 0);
        Check.due(1, x::scrub);
        Check.due(251, x::healed);
    }

    private static void outages() {
        Check.promise("13 online, time and again");
        Zfsmill x = Pools.oneBlock();
        for (int nth = 0; nth < 100; nth++) {
            int side = nth % 2;
            x.offline(0, side);
            x.write(0, 0, nth + 1);
            x.sync();
            x.online(0, side);
        }
        Check.due(100, () -> x.read(0, 0));
        x.offline(0, 0);
        Check.due(100, () -> x.read(0, 0));
        x.online(0, 0);
        x.offline(0, 1);
        Check.due(100, () -> x.read(0, 0));
        Check.due(0, x::healed);
    }
}
