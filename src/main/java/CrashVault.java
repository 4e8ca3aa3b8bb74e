import java.util.NoSuchElementException;

/**
 * A vault of names and values with what these were before, kept under a password on a disk with
 * two slots. A save never touches the newest good slot, so that a failing power loses at most what
 * was not saved yet.
 */
public final class CrashVault {
    private static final int SLOT_BYTES = 300;
    private static final int DISK_BYTES = 600;
    private static final int MOST_ROUNDS = 40;
    private static final int MOST_ENTRIES = 8;
    private static final int MOST_OLD = 2;
    private static final int NONE = -1;

    private final int[] diskBytes = new int[DISK_BYTES];
    private final FileForm form = new FileForm();
    private final Vault vault = new Vault();
    // What the slots hold, as they were read last: no call relies on what an earlier one found.
    private final Vault found0 = new Vault();
    private final Vault found1 = new Vault();
    private boolean opened;
    // After renew the slot to be spared is still the one that is good for the password before.
    private long savedPassword;

    public CrashVault() {
        opened = false;
    }

    public boolean make(long password, int salt, int rounds, int power)
        throws IllegalArgumentException {
        requireRounds(rounds);
        requirePower(power);
        for (int i = 0; i < DISK_BYTES; i++) {
            diskBytes[i] = 0;
        }
        vault.password = password;
        vault.salt = salt;
        vault.rounds = rounds;
        vault.serial = 0;
        vault.list.clearAll();
        // No slot of an empty disk is good, whatever the password.
        return saveInto(0, power);
    }

    public int open(long password) throws NoSuchElementException {
        int newest = newestGood(password);
        if (newest == NONE) {
            throw new NoSuchElementException();
        }
        vault.copyFrom(newest == 0 ? found0 : found1);
        savedPassword = password;
        opened = true;
        return vault.serial;
    }

    public boolean shut() {
        boolean wasOpen = opened;
        opened = false;
        return wasOpen;
    }

    public boolean isOpen() {
        return opened;
    }

    public int length() throws IllegalStateException {
        requireOpen();
        return form.fileBytes(vault);
    }

    public boolean save(int power) throws IllegalStateException, IllegalArgumentException {
        requireOpen();
        requirePower(power);
        return saveInto(newestGood(savedPassword) == 0 ? 1 : 0, power);
    }

    public void renew(long password, int rounds)
        throws IllegalStateException, IllegalArgumentException {
        requireOpen();
        requireRounds(rounds);
        vault.password = password;
        vault.rounds = rounds;
    }

    public int serial() throws IllegalStateException {
        requireOpen();
        return vault.serial;
    }

    public boolean put(long name, long value)
        throws IllegalStateException, IllegalArgumentException, UnsupportedOperationException {
        requireOpen();
        if (name == 0) {
            throw new IllegalArgumentException();
        }
        int at = vault.list.find(name);
        if (at != NONE) {
            vault.list.change(at, value);
            return false;
        }
        if (vault.list.count >= MOST_ENTRIES) {
            throw new UnsupportedOperationException();
        }
        vault.list.insert(name, value);
        return true;
    }

    public boolean remove(long name) throws IllegalStateException {
        requireOpen();
        int at = vault.list.find(name);
        if (at == NONE) {
            return false;
        }
        vault.list.drop(at);
        return true;
    }

    public int entries() throws IllegalStateException {
        requireOpen();
        return vault.list.count;
    }

    public long name(int i) throws IllegalStateException, IndexOutOfBoundsException {
        requireOpen();
        if (i < 0 || i >= vault.list.count) {
            throw new IndexOutOfBoundsException();
        }
        return vault.list.names[i];
    }

    public long value(long name, int back)
        throws IllegalStateException, IndexOutOfBoundsException, NoSuchElementException {
        requireOpen();
        if (back < 0 || back > MOST_OLD) {
            throw new IndexOutOfBoundsException();
        }
        int at = vault.list.find(name);
        if (at == NONE || back > vault.list.olds[at]) {
            throw new NoSuchElementException();
        }
        return vault.list.values[at][back];
    }

    public int disk(int i) throws IndexOutOfBoundsException {
        requireDiskIndex(i);
        return diskBytes[i];
    }

    public void spoil(int i, int bits) throws IndexOutOfBoundsException {
        requireDiskIndex(i);
        diskBytes[i] ^= bits & 0xff;
    }

    public boolean isGood(int slot, long password) throws IndexOutOfBoundsException {
        if (slot < 0 || slot > 1) {
            throw new IndexOutOfBoundsException();
        }
        return form.readFile(diskBytes, slot * SLOT_BYTES, password, found0);
    }

    private void requireOpen() {
        if (!opened) {
            throw new IllegalStateException();
        }
    }

    private static void requireRounds(int rounds) {
        if (rounds < 1 || rounds > MOST_ROUNDS) {
            throw new IllegalArgumentException();
        }
    }

    private static void requirePower(int power) {
        if (power < 0) {
            throw new IllegalArgumentException();
        }
    }

    private static void requireDiskIndex(int i) {
        if (i < 0 || i >= DISK_BYTES) {
            throw new IndexOutOfBoundsException();
        }
    }

    /** What the good slots hold stands in found0 and found1 then. */
    private int newestGood(long password) {
        boolean good0 = form.readFile(diskBytes, 0, password, found0);
        boolean good1 = form.readFile(diskBytes, SLOT_BYTES, password, found1);
        if (good0 && good1) {
            return found1.serial > found0.serial ? 1 : 0;
        }
        if (good0) {
            return 0;
        }
        return good1 ? 1 : NONE;
    }

    /** Opens the vault if the power suffices, and shuts it if not. */
    private boolean saveInto(int slot, int power) {
        vault.serial++;
        int bytes = form.writeFile(vault);
        System.arraycopy(form.row.bytes, 0, diskBytes, slot * SLOT_BYTES, Math.min(power, bytes));
        opened = power >= bytes;
        savedPassword = vault.password;
        return opened;
    }

    /** The entries of a vault, in the order of their names. */
    private static final class EntryList {
        private static final int PLAIN_ENTRY_BYTES = 17;

        private final long[] names = new long[MOST_ENTRIES];
        private final int[] olds = new int[MOST_ENTRIES];
        // Of each entry the value, then the old ones, the latest first.
        private final long[][] values = new long[MOST_ENTRIES][MOST_OLD + 1];
        private int count;

        void clearAll() {
            count = 0;
        }

        int find(long name) {
            for (int i = 0; i < count; i++) {
                if (names[i] == name) {
                    return i;
                }
            }
            return NONE;
        }

        void change(int at, long value) {
            long[] row = values[at];
            if (row[0] == value) {
                return;
            }
            row[2] = row[1];
            row[1] = row[0];
            row[0] = value;
            olds[at] = Math.min(olds[at] + 1, MOST_OLD);
        }

        /** The name is new, and there is room for it. */
        void insert(long name, long value) {
            int at = count;
            while (at > 0 && names[at - 1] > name) {
                copyEntry(this, at - 1, at);
                at--;
            }
            names[at] = name;
            olds[at] = 0;
            values[at][0] = value;
            count++;
        }

        void drop(int at) {
            count--;
            for (int i = at; i < count; i++) {
                copyEntry(this, i + 1, i);
            }
        }

        void copyFrom(EntryList other) {
            count = other.count;
            for (int i = 0; i < count; i++) {
                copyEntry(other, i, i);
            }
        }

        private void copyEntry(EntryList other, int from, int to) {
            names[to] = other.names[from];
            olds[to] = other.olds[from];
            for (int back = 0; back <= MOST_OLD; back++) {
                values[to][back] = other.values[from][back];
            }
        }

        int contentBytes() {
            int bytes = 1;
            for (int i = 0; i < count; i++) {
                bytes += PLAIN_ENTRY_BYTES + 8 * olds[i];
            }
            return bytes;
        }

        void writeContent(ByteRow row, int from) {
            row.setNumber(from, count, 1);
            int at = from + 1;
            for (int i = 0; i < count; i++) {
                row.setNumber(at, names[i], 8);
                row.setNumber(at + 8, olds[i], 1);
                at += 9;
                for (int back = 0; back <= olds[i]; back++) {
                    row.setNumber(at, values[i][back], 8);
                    at += 8;
                }
            }
        }

        /** Whether the bytes are a content; only then is what the list holds of use. */
        boolean readContent(ByteRow row, int from, int end) {
            if (from >= end || row.bytes[from] > MOST_ENTRIES) {
                return false;
            }
            count = row.bytes[from];
            int at = from + 1;
            for (int i = 0; i < count; i++) {
                if (!readEntry(row, at, end, i)) {
                    return false;
                }
                at += PLAIN_ENTRY_BYTES + 8 * olds[i];
            }
            return at == end;
        }

        private boolean readEntry(ByteRow row, int at, int end, int i) {
            if (at + PLAIN_ENTRY_BYTES > end) {
                return false;
            }
            long name = row.numberAt(at, 8);
            int old = row.bytes[at + 8];
            if (name == 0 || i > 0 && name <= names[i - 1]) {
                return false;
            }
            if (old > MOST_OLD || at + PLAIN_ENTRY_BYTES + 8 * old > end) {
                return false;
            }
            names[i] = name;
            olds[i] = old;
            for (int back = 0; back <= old; back++) {
                values[i][back] = row.numberAt(at + 9 + 8 * back, 8);
            }
            return true;
        }
    }

    /** All that a file tells of a vault, and the password that it is kept under. */
    private static final class Vault {
        private final EntryList list = new EntryList();
        private long password;
        private int salt;
        private int rounds;
        private int serial;

        void copyFrom(Vault other) {
            password = other.password;
            salt = other.salt;
            rounds = other.rounds;
            serial = other.serial;
            list.copyFrom(other.list);
        }
    }

    /** Turns vaults into files, and slots into vaults. */
    private static final class FileForm {
        private static final int FIRST_SIGN = 0x56;
        private static final int SECOND_SIGN = 0x32;
        private static final int SERIAL_AT = 2;
        private static final int SALT_AT = 6;
        private static final int ROUNDS_AT = 10;
        private static final int CONTENT_BYTES_AT = 11;
        private static final int HEADER_BYTES = 13;
        private static final int SEAL_BYTES = 8;
        private static final int CONTENT_AT = HEADER_BYTES + SEAL_BYTES;
        private static final int HEADER_USE = 3;
        private static final int FILE_USE = 4;

        private final Cipher cipher = new Cipher();
        private final ByteRow row = new ByteRow();

        int fileBytes(Vault vault) {
            return CONTENT_AT + vault.list.contentBytes() + SEAL_BYTES;
        }

        /** The file stands in the row then: how many bytes it has. */
        int writeFile(Vault vault) {
            int contentBytes = vault.list.contentBytes();
            int end = CONTENT_AT + contentBytes;
            row.bytes[0] = FIRST_SIGN;
            row.bytes[1] = SECOND_SIGN;
            row.setNumber(SERIAL_AT, vault.serial, 4);
            row.setNumber(SALT_AT, vault.salt, 4);
            row.setNumber(ROUNDS_AT, vault.rounds, 1);
            row.setNumber(CONTENT_BYTES_AT, contentBytes, 2);
            cipher.setKey(vault.password, vault.salt, vault.rounds);
            row.setNumber(HEADER_BYTES, cipher.seal(row, HEADER_BYTES, HEADER_USE), SEAL_BYTES);
            vault.list.writeContent(row, CONTENT_AT);
            cipher.applyStream(row, CONTENT_AT, end, vault.serial);
            row.setNumber(end, cipher.seal(row, end, FILE_USE), SEAL_BYTES);
            return end + SEAL_BYTES;
        }

        /** Whether the slot that begins there is good; only then is all of found set. */
        boolean readFile(int[] disk, int from, long password, Vault found) {
            System.arraycopy(disk, from, row.bytes, 0, SLOT_BYTES);
            int rounds = row.bytes[ROUNDS_AT];
            int end = CONTENT_AT + (int) row.numberAt(CONTENT_BYTES_AT, 2);
            if (row.bytes[0] != FIRST_SIGN || row.bytes[1] != SECOND_SIGN
                || rounds < 1 || rounds > MOST_ROUNDS || end + SEAL_BYTES > SLOT_BYTES) {
                return false;
            }
            found.password = password;
            found.salt = (int) row.numberAt(SALT_AT, 4);
            found.rounds = rounds;
            found.serial = (int) row.numberAt(SERIAL_AT, 4);
            cipher.setKey(password, found.salt, rounds);
            if (row.numberAt(HEADER_BYTES, SEAL_BYTES) != cipher.seal(row, HEADER_BYTES, HEADER_USE)
                || row.numberAt(end, SEAL_BYTES) != cipher.seal(row, end, FILE_USE)) {
                return false;
            }
            cipher.applyStream(row, CONTENT_AT, end, found.serial);
            return found.list.readContent(row, CONTENT_AT, end);
        }
    }

    /** As many bytes as a slot has, each 0 .. 255; numbers in them have the lowest byte first. */
    private static final class ByteRow {
        private final int[] bytes = new int[SLOT_BYTES];

        void setNumber(int at, long number, int size) {
            for (int i = 0; i < size; i++) {
                bytes[at + i] = (int) (number >>> 8 * i) & 0xff;
            }
        }

        long numberAt(int at, int size) {
            long number = 0;
            for (int i = 0; i < size; i++) {
                number |= (long) bytes[at + i] << 8 * i;
            }
            return number;
        }
    }

    /** Seals and the stream by the key of a password. */
    private static final class Cipher {
        private static final int BLOCK_INTS = 16;
        private static final int BLOCK_BYTES = 64;
        private static final int KEY_INTS = 4;
        private static final int PASSWORD_USE = 1;
        private static final int ROUND_USE = 2;
        private static final int STREAM_USE = 5;

        private final int[] key = new int[KEY_INTS];
        private final int[] chain = new int[KEY_INTS];
        private final int[] start = new int[BLOCK_INTS];
        private final int[] block = new int[BLOCK_INTS];

        void setKey(long password, int salt, int rounds) {
            key[0] = (int) password;
            key[1] = (int) (password >>> 32);
            key[2] = salt;
            key[3] = 0;
            // The seal of no bytes is its last step alone.
            advance(key, 0, -1, PASSWORD_USE);
            for (int i = 0; i < rounds; i++) {
                advance(key, i, 0, ROUND_USE);
            }
        }

        /** The first two ints of the seal of the row's first bytes, the first int the low half. */
        long seal(ByteRow row, int size, int use) {
            System.arraycopy(key, 0, chain, 0, KEY_INTS);
            for (int i = 0; 4 * i < size; i++) {
                int word = (int) row.numberAt(4 * i, Math.min(4, size - 4 * i));
                advance(chain, word, i, use);
            }
            advance(chain, size, -1, use);
            return (long) chain[1] << 32 | chain[0] & 0xffffffffL;
        }

        /** Hides what is plain, and shows what is hidden. */
        void applyStream(ByteRow row, int from, int end, int serial) {
            for (int j = 0; from + j < end; j++) {
                int inBlock = j % BLOCK_BYTES;
                if (inBlock == 0) {
                    makeBlock(key, j / BLOCK_BYTES, serial, STREAM_USE);
                }
                row.bytes[from + j] ^= block[inBlock / 4] >>> 8 * (inBlock % 4) & 0xff;
            }
        }

        private void advance(int[] four, int x, int y, int z) {
            makeBlock(four, x, y, z);
            System.arraycopy(block, 0, four, 0, KEY_INTS);
        }

        private void makeBlock(int[] four, int x, int y, int z) {
            start[0] = 0x61707865;
            start[1] = 0x3320646e;
            start[2] = 0x79622d32;
            start[3] = 0x6b206574;
            System.arraycopy(four, 0, start, 4, KEY_INTS);
            System.arraycopy(four, 0, start, 8, KEY_INTS);
            start[12] = x;
            start[13] = y;
            start[14] = z;
            start[15] = 0;
            System.arraycopy(start, 0, block, 0, BLOCK_INTS);
            for (int i = 0; i < 4; i++) {
                stir(0, 4, 8, 12);
                stir(1, 5, 9, 13);
                stir(2, 6, 10, 14);
                stir(3, 7, 11, 15);
                stir(0, 5, 10, 15);
                stir(1, 6, 11, 12);
                stir(2, 7, 8, 13);
                stir(3, 4, 9, 14);
            }
            for (int i = 0; i < BLOCK_INTS; i++) {
                block[i] += start[i];
            }
        }

        private void stir(int atA, int atB, int atC, int atD) {
            int a = block[atA];
            int b = block[atB];
            int c = block[atC];
            int d = block[atD];
            a += b;
            d ^= a;
            d = d << 16 | d >>> 16;
            c += d;
            b ^= c;
            b = b << 12 | b >>> 20;
            a += b;
            d ^= a;
            d = d << 8 | d >>> 24;
            c += d;
            b ^= c;
            b = b << 7 | b >>> 25;
            block[atA] = a;
            block[atB] = b;
            block[atC] = c;
            block[atD] = d;
        }
    }
}
