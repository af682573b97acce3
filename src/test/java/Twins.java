import java.util.List;

/**
 * Finds out whether a refused call changed anything: of two objects with the same history one is
 * asked for it, and then both must answer alike, whatever they are asked. Each kind of question
 * has a pair of its own, as some questions change the object and as it lives for 512 calls.
 */
final class Twins {
    interface Recipe {
        Zfsmill make();
    }

    interface Deed {
        Object on(Zfsmill x);
    }

    private static final List<Deed> QUESTIONS = List.of(
            Twins::numbers, Twins::freeCells, Twins::spoiltCells, Twins::pointers, Twins::values,
            Twins::readings, Twins::readingsOfWhatIsSynced, Twins::nextSync, Twins::comeBack,
            Twins::scrubbing);

    private Twins() {
    }

    static void refused(Class<?> why, Recipe recipe, Deed call) {
        for (Deed question : QUESTIONS) {
            Zfsmill asked = recipe.make();
            Zfsmill other = recipe.make();
            Check.due(why, () -> call.on(asked));
            Check.due(question.on(other), () -> question.on(asked));
        }
    }

    /** An answer, or the exception in its place. */
    private static Object answer(Zfsmill x, Deed call) {
        try {
            return call.on(x);
        } catch (RuntimeException e) {
            return e.getClass().getSimpleName();
        }
    }

    private static String numbers(Zfsmill x) {
        StringBuilder all = new StringBuilder();
        all.append(x.group()).append(' ').append(x.buffered()).append(' ');
        all.append(x.healed()).append(' ').append(x.lost()).append(' ').append(x.rootChecksum());
        for (int mirror = 0; mirror < 3; mirror++) {
            all.append(' ').append(x.free(mirror));
        }
        for (int nth = 0; nth < 2; nth++) {
            int n = nth;
            all.append(' ').append(answer(x, y -> y.rootPlace(n)));
            for (int file = 0; file < 4; file++) {
                int f = file;
                all.append(' ').append(answer(x, y -> y.nodePlace(f, n)));
            }
        }
        for (int file = 0; file < 4; file++) {
            all.append(' ').append(x.checksum(file)).append(' ').append(x.setCopies(file, 1));
        }
        return all.toString();
    }

    private static String freeCells(Zfsmill x) {
        StringBuilder all = new StringBuilder();
        for (int nth = 0; nth < 120; nth++) {
            all.append(x.isFree(nth / 40, nth % 40) ? '-' : '#');
        }
        return all.toString();
    }

    private static String spoiltCells(Zfsmill x) {
        StringBuilder all = new StringBuilder();
        for (int nth = 0; nth < 240; nth++) {
            int mirror = nth / 80;
            int side = nth / 40 % 2;
            int cell = nth % 40;
            Object got = answer(x, y -> y.isSpoilt(mirror, side, cell));
            all.append(got.equals(true) ? '#' : got.equals(false) ? '-' : '?');
        }
        return all.toString();
    }

    private static String pointers(Zfsmill x) {
        StringBuilder all = new StringBuilder();
        for (int nth = 0; nth < 48; nth++) {
            int file = nth / 12;
            int block = nth % 12;
            all.append(x.places(file, block)).append(' ').append(x.birth(file, block));
            all.append(' ').append(answer(x, y -> y.place(file, block, 0)));
            all.append(' ').append(answer(x, y -> y.place(file, block, 1))).append(' ');
        }
        return all.toString();
    }

    private static String values(Zfsmill x) {
        StringBuilder all = new StringBuilder();
        for (int nth = 0; nth < 48; nth++) {
            int file = nth / 12;
            int block = nth % 12;
            all.append(answer(x, y -> y.nextData(file, block))).append(' ');
            all.append(x.nextHole(file, block)).append(' ');
        }
        for (int nth = 0; nth < 48; nth++) {
            all.append(x.write(nth / 12, nth % 12, 1)).append(' ');
        }
        return all.toString();
    }

    private static String readings(Zfsmill x) {
        StringBuilder all = new StringBuilder();
        for (int nth = 0; nth < 48; nth++) {
            int file = nth / 12;
            int block = nth % 12;
            all.append(answer(x, y -> y.read(file, block))).append(' ');
            all.append(x.healed()).append(' ');
        }
        return all.toString();
    }

    private static String readingsOfWhatIsSynced(Zfsmill x) {
        return x.abandon() + " " + readings(x);
    }

    private static String nextSync(Zfsmill x) {
        return answer(x, Zfsmill::sync) + " " + numbers(x) + " " + pointers(x);
    }

    private static String comeBack(Zfsmill x) {
        StringBuilder all = new StringBuilder();
        for (int nth = 0; nth < 6; nth++) {
            int mirror = nth / 2;
            int side = nth % 2;
            all.append(answer(x, y -> y.online(mirror, side))).append(' ');
        }
        return all.append(x.lost()).append(' ').append(spoiltCells(x)).toString();
    }

    private static String scrubbing(Zfsmill x) {
        return x.scrub() + " " + x.healed() + " " + x.lost() + " " + spoiltCells(x);
    }
}
