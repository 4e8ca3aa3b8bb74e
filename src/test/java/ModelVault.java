import java.util.ArrayList;
import java.util.Arrays;
import java.util.List;
import java.util.Map;
import java.util.NoSuchElementException;
import java.util.TreeMap;

/**
 * The document's vault a second time, written for plainness alone: a slot is good when what it
 * tells can be made into a file again that is the same, byte for byte.
 */
final class ModelVault {
    private static final int SLOT = 300;

    private final byte[] disk = new byte[2 * SLOT];
    private State now = null;
    private long savedPassword;

    /** A vault as a file tells it. */
    private static final class State {
        long password;
        int salt;
        int rounds;
        int serial;
        final TreeMap<Long, List<Long>> values = new TreeMap<>();

        byte[] file() {
            long[][] rows = new long[values.size()][];
            int i = 0;
            for (Map.Entry<Long, List<Long>> entry : values.entrySet()) {
                rows[i] = new long[entry.getValue().size() + 1];
                rows[i][0] = entry.getKey();
                for (int j = 1; j < rows[i].length; j++) {
                    rows[i][j] = entry.getValue().get(j - 1);
                }
                i++;
            }
            Forge file = new Forge(Forge.contentOf(rows));
            file.serial = serial;
            file.salt = salt;
            file.rounds = rounds;
            return file.file(password);
        }
    }

    boolean make(long password, int salt, int rounds, int power) {
        if (rounds < 1 || rounds > 40 || power < 0) {
            throw new IllegalArgumentException();
        }
        Arrays.fill(disk, (byte) 0);
        now = new State();
        now.password = password;
        now.salt = salt;
        now.rounds = rounds;
        savedPassword = password;
        return save(power);
    }

    int open(long password) {
        int newest = newest(password);
        if (newest < 0) {
            throw new NoSuchElementException();
        }
        now = read(newest, password);
        savedPassword = password;
        return now.serial;
    }

    boolean shut() {
        boolean was = now != null;
        now = null;
        return was;
    }

    boolean isOpen() {
        return now != null;
    }

    int length() {
        return state().file().length;
    }

    boolean save(int power) {
        state();
        if (power < 0) {
            throw new IllegalArgumentException();
        }
        int slot = newest(savedPassword) == 0 ? 1 : 0;
        now.serial++;
        byte[] file = now.file();
        for (int i = 0; i < file.length; i++) {
            if (power == i) {
                now = null;
                return false;
            }
            disk[SLOT * slot + i] = file[i];
        }
        savedPassword = now.password;
        return true;
    }

    void renew(long password, int rounds) {
        state();
        if (rounds < 1 || rounds > 40) {
            throw new IllegalArgumentException();
        }
        now.password = password;
        now.rounds = rounds;
    }

    int serial() {
        return state().serial;
    }

    boolean put(long name, long value) {
        TreeMap<Long, List<Long>> values = state().values;
        if (name == 0) {
            throw new IllegalArgumentException();
        }
        boolean isNew = !values.containsKey(name);
        if (isNew && values.size() == 8) {
            throw new UnsupportedOperationException();
        }
        List<Long> history = values.computeIfAbsent(name, n -> new ArrayList<>());
        if (history.isEmpty() || history.get(0) != value) {
            history.add(0, value);
        }
        while (history.size() > 3) {
            history.remove(3);
        }
        return isNew;
    }

    boolean remove(long name) {
        return state().values.remove(name) != null;
    }

    int entries() {
        return state().values.size();
    }

    long name(int i) {
        return new ArrayList<>(state().values.keySet()).get(i);
    }

    long value(long name, int back) {
        state();
        if (back < 0 || back > 2) {
            throw new IndexOutOfBoundsException();
        }
        List<Long> history = now.values.getOrDefault(name, List.of());
        if (back >= history.size()) {
            throw new NoSuchElementException();
        }
        return history.get(back);
    }

    int disk(int i) {
        checkIndex(i, disk.length);
        return disk[i] & 0xff;
    }

    void spoil(int i, int bits) {
        checkIndex(i, disk.length);
        disk[i] ^= (byte) bits;
    }

    boolean isGood(int slot, long password) {
        checkIndex(slot, 2);
        return read(slot, password) != null;
    }

    private static void checkIndex(int i, int size) {
        if (i < 0 || i >= size) {
            throw new IndexOutOfBoundsException();
        }
    }

    private State state() {
        if (now == null) {
            throw new IllegalStateException();
        }
        return now;
    }

    private int newest(long password) {
        State in0 = read(0, password);
        State in1 = read(1, password);
        if (in0 == null && in1 == null) {
            return -1;
        }
        return in0 == null || in1 != null && in1.serial > in0.serial ? 1 : 0;
    }

    private static long number(byte[] bytes, int at, int size) {
        long number = 0;
        for (int i = size - 1; i >= 0; i--) {
            number = number << 8 | bytes[at + i] & 0xff;
        }
        return number;
    }

    private State read(int slot, long password) {
        byte[] bytes = Arrays.copyOfRange(disk, SLOT * slot, SLOT * slot + SLOT);
        State found = new State();
        found.password = password;
        found.serial = (int) number(bytes, 2, 4);
        found.salt = (int) number(bytes, 6, 4);
        found.rounds = bytes[10] & 0xff;
        int size = (int) number(bytes, 11, 2);
        if (found.rounds < 1 || found.rounds > 40 || size > SLOT - 29) {
            return null;
        }
        int[] key = Forge.keyOf(password, found.salt, found.rounds);
        byte[] content = Arrays.copyOfRange(bytes, 21, 21 + size);
        for (int j = 0; j < size; j++) {
            content[j] ^= (byte) (Forge.block(key, j / 64, found.serial, 5)[j % 64 / 4] >> 8 * (j % 4));
        }
        fill(found, content);
        byte[] file = found.file();
        boolean same = Arrays.equals(file, Arrays.copyOf(bytes, file.length));
        return same && found.values.size() <= 8 && !found.values.containsKey(0L) ? found : null;
    }

    /** Takes what it can of the content; what was no content makes another file then. */
    private static void fill(State found, byte[] content) {
        int at = 1;
        while (at + 17 <= content.length) {
            int told = content[at + 8];
            if (told < 0 || told > 2 || at + 17 + 8 * told > content.length) {
                return;
            }
            List<Long> history = new ArrayList<>();
            for (int i = 0; i <= told; i++) {
                history.add(number(content, at + 9 + 8 * i, 8));
            }
            found.values.put(number(content, at, 8), history);
            at += 17 + 8 * told;
        }
    }
}
