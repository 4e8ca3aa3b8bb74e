import java.util.ArrayList;
import java.util.Arrays;
import java.util.List;

/** Scenes that many tests begin with. */
final class Scenes {
    static final long PASSWORD = 0x123456789abcdef0L;
    static final long OTHER_PASSWORD = 0x0fedcba987654321L;
    static final int SALT = 0x81828384;
    static final int ROUNDS = 3;
    static final int PLENTY = 1000;

    static final Scene NEW = v -> { };
    static final Scene MADE = v -> v.make(PASSWORD, SALT, ROUNDS, PLENTY);
    static final Scene SAVED = v -> v.save(PLENTY);
    static final Scene OPENED = v -> v.open(PASSWORD);
    static final Scene SHUT = MADE.then(CrashVault::shut);
    static final Scene FULL = MADE.then(entries(8, 2));
    /** Both slots are good, slot 0 is the newest, and there is much that is not saved. */
    static final Scene UNSAVED = MADE.then(SAVED).then(entries(3, 1)).then(SAVED).then(v -> {
        v.put(2, -1);
        v.remove(3);
        v.put(Long.MIN_VALUE, Long.MAX_VALUE);
        v.renew(OTHER_PASSWORD, 40);
    });
    /** Shut by a power that failed while there was much that was not saved. */
    static final Scene FAILED = UNSAVED.then(v -> v.save(50));

    private Scenes() {
    }

    static Scene entries(int count, int olds) {
        return v -> {
            for (long[] row : rows(count, olds)) {
                for (int i = row.length - 1; i >= 1; i--) {
                    v.put(row[0], row[i]);
                }
            }
        };
    }

    /** The same entries, each as its name, its value, its old values. */
    static long[][] rows(int count, int olds) {
        long[][] rows = new long[count][olds + 2];
        for (int i = 0; i < count; i++) {
            rows[i][0] = i + 1;
            for (int back = 0; back <= olds; back++) {
                rows[i][back + 1] = -0x0102030405060708L * (i + 1) - back;
            }
        }
        return rows;
    }

    /** The file of such a vault as MADE is, with these entries. */
    static Forge file(int serial, long[]... rows) {
        Forge file = new Forge(Forge.contentOf(rows));
        file.serial = serial;
        file.salt = SALT;
        file.rounds = ROUNDS;
        return file;
    }

    static byte[] fileBytes(int serial, long[]... rows) {
        return file(serial, rows).file(PASSWORD);
    }

    /** What Check sees of such a vault while it is open. */
    static String seen(int serial, long[]... rows) {
        List<Object> all = new ArrayList<>();
        all.add(serial);
        all.add(29 + Forge.contentOf(rows).length);
        for (long[] row : rows) {
            all.add(row[0] + "=" + Arrays.toString(Arrays.copyOfRange(row, 1, row.length)));
        }
        return all.toString();
    }

    static Scene planted(int slot, byte[] file) {
        return v -> Forge.plant(v, slot, file);
    }

    /** Saves what is open, or else what can be opened. */
    static void goOn(CrashVault v) {
        if (!v.isOpen()) {
            Check.answer(() -> v.open(PASSWORD));
        }
        if (v.isOpen()) {
            v.save(PLENTY);
        }
    }
}
