import java.nio.ByteBuffer;
import java.nio.ByteOrder;
import java.util.Arrays;
import java.util.List;

/** Sentences of the terms: bytes, blocks, seals, keys, vaults, contents, the disk and files. */
final class FileSentences {
    private static final String VAULT_WORDS = "A VAULT has at most 8 ENTRIES: a NAME (a long, not 0; they are in "
        + "order as longs), a VALUE (a long), and at most two OLD values, the latest first.";
    private static final String FILE_WORDS = "A SLOT holds, from its first byte on, a FILE: the HEADER: 0x56, 0x32; "
        + "the SERIAL, an int; the salt, an int; the rounds, one byte, 1 .. 40; the number of bytes of the content, "
        + "two bytes; then the first two ints of the seal of these 13 bytes by the key of the password (with this "
        + "salt and these rounds) and 3; then the content, each byte xor one of the STREAM: byte j is byte j % 64 of "
        + "the block of that key, j / 64, the serial, 5, as bytes; then the first two ints of the seal of all bytes "
        + "of the file before by that key and 4.";
    /** The first block of ChaCha with 8 rounds, key and counter all 0, as it was published. */
    private static final String KNOWN_BLOCK = "3e00ef2f895f40d67f5bb8e81f09a5a12c840ec3ce9a7f3b181be188ef711a1e"
        + "984ce172b9216f419f445367456d5619314a42a3da86b001387bfdb80e0cfe42";

    private FileSentences() {
    }

    static List<Sentence> all() {
        return List.of(
            new Sentence("terms: ints wrap", "Ints and longs wrap.", FileSentences::intsWrap),
            new Sentence("terms: the lowest byte is first",
                "Of ints and longs as BYTES the lowest byte is first.", FileSentences::lowestByteIsFirst),
            new Sentence("terms: stir", "TO STIR four of sixteen ints a, b, c, d: a becomes a + b; d becomes d xor a, "
                + "turned left by 16 bits; c becomes c + d; b becomes b xor c, turned by 12; a becomes a + b; d "
                + "becomes d xor a, turned by 8; c becomes c + d; b becomes b xor c, turned by 7.",
                FileSentences::smallestFile),
            new Sentence("terms: block", "A BLOCK of four ints k (a KEY) and three more, x, y and z: sixteen ints: "
                + "0x61707865, 0x3320646e, 0x79622d32, 0x6b206574, the key, the key again, x, y, z, 0; four times "
                + "these eight are stirred: 0 4 8 12, 1 5 9 13, 2 6 10 14, 3 7 11 15, 0 5 10 15, 1 6 11 12, "
                + "2 7 8 13, 3 4 9 14; then to each of the sixteen what it was at first is added.",
                FileSentences::knownBlock),
            new Sentence("terms: seal", "THE SEAL of n bytes by a key and a number z: the bytes are taken by fours as "
                + "ints, the last one filled up with 0; for each, x, the i-th (from 0), the key becomes the first "
                + "four ints of the block of it, x, i, z; then those of the block of it, n, -1, z. These four ints "
                + "are the seal.", FileSentences::sealsOfAnyRest),
            new Sentence("terms: key", "THE KEY OF A PASSWORD (a long), a SALT (an int) and a number r of ROUNDS: the "
                + "seal of no bytes by the low half of the password, the high half, the salt, 0 as key and 1; then r "
                + "times, for i = 0, 1, ..: it becomes the first four ints of the block of it, i, 0, 2.",
                FileSentences::keysAtTheEdges),
            new Sentence("terms: at most 8 entries", VAULT_WORDS, FileSentences::eightEntries),
            new Sentence("terms: no name is 0", VAULT_WORDS, FileSentences::noNameIsZero),
            new Sentence("terms: names in order", VAULT_WORDS, FileSentences::namesInOrder),
            new Sentence("terms: values are longs", VAULT_WORDS, FileSentences::valuesAreLongs),
            new Sentence("terms: at most two old values", VAULT_WORDS, FileSentences::twoOldValues),
            new Sentence("terms: content", "Its CONTENT as bytes: the number of entries, one byte; of each in order "
                + "its name, the number of old values, one byte, the value, the old values.",
                FileSentences::emptyToFullContents),
            new Sentence("terms: disk", "THE DISK has 600 bytes, at first all 0: slot 0 are bytes 0 .. 299, slot 1 are "
                + "bytes 300 .. 599.", FileSentences::bytesOfTheDisk),
            new Sentence("terms: header", FILE_WORDS, FileSentences::headersAtTheEdges),
            new Sentence("terms: stream", FILE_WORDS, FileSentences::streamOverFiveBlocks),
            new Sentence("terms: seals of a file", FILE_WORDS, FileSentences::sealsOfAFile));
    }

    /** A vault with this serial is opened, and saved into slot 1. */
    private static Scene savedAfter(int serial, Scene change) {
        Scene planted = Scenes.planted(0, Scenes.fileBytes(serial));
        return planted.then(Scenes.OPENED).then(change).then(Scenes.SAVED);
    }

    private static void intsWrap() {
        Scene saved = savedAfter(Integer.MAX_VALUE, Scenes.NEW);
        Check.due("the serial behind the greatest", Integer.MIN_VALUE, () -> saved.played().serial());
        Check.dueSlot("the file of it", Scenes.fileBytes(Integer.MIN_VALUE), saved, 1);
        Check.due("one save more", Integer.MIN_VALUE + 1, () -> saved.then(Scenes.SAVED).played().serial());
        Check.due("the serial behind -1", 0, () -> savedAfter(-1, Scenes.NEW).played().serial());
    }

    private static void lowestByteIsFirst() {
        long name = 0x1112131415161718L;
        long value = 0xf1f2f3f4f5f6f7f8L;
        byte[] slot = savedAfter(0x01020303, v -> v.put(name, value)).slot(1);
        Check.due("the serial", "[4, 3, 2, 1]", () -> Arrays.toString(Arrays.copyOfRange(slot, 2, 6)));
        Check.due("the salt", "[-124, -125, -126, -127]", () -> Arrays.toString(Arrays.copyOfRange(slot, 6, 10)));
        byte[] content = plain(slot, 0x01020304, 18);
        Check.due("the name", "[24, 23, 22, 21, 20, 19, 18, 17]",
            () -> Arrays.toString(Arrays.copyOfRange(content, 1, 9)));
        Check.due("the value", "[-8, -9, -10, -11, -12, -13, -14, -15]",
            () -> Arrays.toString(Arrays.copyOfRange(content, 10, 18)));
    }

    /** The content of a file of MADE. */
    private static byte[] plain(byte[] slot, int serial, int size) {
        int[] key = Forge.keyOf(Scenes.PASSWORD, Scenes.SALT, Scenes.ROUNDS);
        byte[] content = Arrays.copyOfRange(slot, 21, 21 + size);
        for (int j = 0; j < size; j++) {
            content[j] ^= streamByte(key, serial, j);
        }
        return content;
    }

    private static byte streamByte(int[] key, int serial, int j) {
        ByteBuffer block = ByteBuffer.allocate(64).order(ByteOrder.LITTLE_ENDIAN);
        block.asIntBuffer().put(Forge.block(key, j / 64, serial, 5));
        return block.get(j % 64);
    }

    private static void smallestFile() {
        Check.dueSlot("the file of no entries", Scenes.fileBytes(1), Scenes.MADE, 0);
    }

    private static void knownBlock() {
        StringBuilder text = new StringBuilder();
        for (int word : Forge.block(new int[4], 0, 0, 0)) {
            text.append(String.format("%08x", Integer.reverseBytes(word)));
        }
        Check.due("the block of nothing but 0", KNOWN_BLOCK, () -> text);
        for (int serial : new int[] {-2, 0, Integer.MAX_VALUE - 1}) {
            Scene saved = savedAfter(serial, Scenes.entries(5, 0));
            Check.dueSlot("blocks with y " + (serial + 1), Scenes.fileBytes(serial + 1, Scenes.rows(5, 0)), saved, 1);
        }
    }

    private static void sealsOfAnyRest() {
        for (int entries = 0; entries <= 4; entries++) {
            int rest = (22 + 17 * entries) % 4;
            Scene saved = Scenes.MADE.then(Scenes.entries(entries, 0)).then(Scenes.SAVED);
            Check.dueSlot("a rest of " + rest + " bytes", Scenes.fileBytes(2, Scenes.rows(entries, 0)), saved, 1);
        }
        Scene shorter = Scenes.FULL.then(Scenes.SAVED).then(v -> {
            for (int name = 1; name <= 8; name++) {
                v.remove(name);
            }
        });
        Check.dueSlot("the rest of a file that follows a longer one", Scenes.fileBytes(3),
            shorter.then(Scenes.SAVED), 0);
    }

    private static void keysAtTheEdges() {
        int[] ints = {0, -1, Integer.MIN_VALUE, Integer.MAX_VALUE};
        for (long password : new long[] {0, 1, -1, 0xffffffffL, 1L << 32, Long.MIN_VALUE, Long.MAX_VALUE}) {
            for (int salt : ints) {
                dueKey(password, salt, 1);
                dueKey(password, salt, 40);
            }
        }
        for (int rounds = 1; rounds <= 40; rounds++) {
            dueKey(Scenes.PASSWORD, Scenes.SALT, rounds);
        }
    }

    private static void dueKey(long password, int salt, int rounds) {
        Forge due = new Forge(Forge.contentOf());
        due.salt = salt;
        due.rounds = rounds;
        Check.dueSlot("password " + password + ", salt " + salt + ", rounds " + rounds, due.file(password),
            v -> v.make(password, salt, rounds, Scenes.PLENTY), 0);
    }

    private static void eightEntries() {
        CrashVault v = Scenes.MADE.played();
        for (int name = 1; name <= 8; name++) {
            int next = name;
            Check.due("entry " + name, true, () -> v.put(next, next));
        }
        Check.due("a ninth", "throws.UnsupportedOperationException", () -> v.put(9, 9));
        Check.due("so many there are", 8, v::entries);
        v.save(Scenes.PLENTY);
        v.open(Scenes.PASSWORD);
        Check.due("so many were saved", 8, v::entries);
        Check.due("the last of them", 8, () -> v.value(8, 0));
    }

    private static void noNameIsZero() {
        CrashVault v = Scenes.MADE.played();
        Check.due("name 0", "throws.IllegalArgumentException", () -> v.put(0, 1));
        Check.due("the name before", true, () -> v.put(-1, 1));
        Check.due("the name behind", true, () -> v.put(1, 1));
        Check.due("the low half is 0", true, () -> v.put(1L << 32, 1));
    }

    private static void namesInOrder() {
        long[] names = {1L << 32, -1, Long.MAX_VALUE, 1, Long.MIN_VALUE, 0xffffffffL, -1L << 32, 2};
        long[] inOrder = names.clone();
        Arrays.sort(inOrder);
        CrashVault v = Scenes.MADE.played();
        for (long name : names) {
            v.put(name, 0);
        }
        for (int again = 0; again < 2; again++) {
            for (int i = 0; i < names.length; i++) {
                int at = i;
                Check.due("name " + i, inOrder[i], () -> v.name(at));
            }
            v.save(Scenes.PLENTY);
            v.open(Scenes.PASSWORD);
        }
    }

    private static void valuesAreLongs() {
        CrashVault v = Scenes.MADE.played();
        for (long value : new long[] {Long.MIN_VALUE, Long.MAX_VALUE, 0, -1, 1L << 32, 0xffffffffL}) {
            v.put(1, value);
            Check.due("the value", value, () -> v.value(1, 0));
            v.save(Scenes.PLENTY);
            v.open(Scenes.PASSWORD);
            Check.due("the saved value", value, () -> v.value(1, 0));
        }
    }

    private static void twoOldValues() {
        CrashVault v = Scenes.MADE.played();
        String[] due = {"[1]", "[2, 1]", "[3, 2, 1]", "[4, 3, 2]", "[5, 4, 3]"};
        for (int value = 1; value <= due.length; value++) {
            v.put(7, value);
            Check.due("after " + value + " values", due[value - 1], () -> Check.history(v, 7));
            Check.due("length after " + value + " values", 39 + 8 * Math.min(value, 3), v::length);
            v.save(Scenes.PLENTY);
            v.open(Scenes.PASSWORD);
            Check.due("saved after " + value + " values", due[value - 1], () -> Check.history(v, 7));
        }
    }

    private static void emptyToFullContents() {
        for (int entries = 0; entries <= 8; entries++) {
            for (int olds = 0; olds <= 2; olds++) {
                Scene saved = Scenes.MADE.then(Scenes.entries(entries, olds)).then(Scenes.SAVED);
                byte[] content = Forge.contentOf(Scenes.rows(entries, olds));
                Check.due(entries + " entries, " + olds + " old values", Arrays.toString(content),
                    () -> Arrays.toString(plain(saved.slot(1), 2, content.length)));
            }
        }
        Scene mixed = Scenes.MADE.then(Scenes.entries(3, 0)).then(v -> {
            v.put(2, 5);
            v.put(3, 6);
            v.put(3, 7);
        });
        long[][] rows = Scenes.rows(3, 0);
        byte[] content = Forge.contentOf(rows[0], new long[] {2, 5, rows[1][1]}, new long[] {3, 7, 6, rows[2][1]});
        Check.due("no, one and two old values", Arrays.toString(content),
            () -> Arrays.toString(plain(mixed.then(Scenes.SAVED).slot(1), 2, content.length)));
    }

    private static void bytesOfTheDisk() {
        Check.due("at first", Arrays.toString(new byte[600]), () -> Arrays.toString(Scenes.NEW.disk()));
        CrashVault v = new CrashVault();
        Check.due("before the first byte", "throws.IndexOutOfBoundsException", () -> v.disk(-1));
        Check.due("the first byte", 0, () -> v.disk(0));
        Check.due("the last byte", 0, () -> v.disk(599));
        Check.due("behind the last byte", "throws.IndexOutOfBoundsException", () -> v.disk(600));
        Scene both = Scenes.FULL.then(Scenes.SAVED).then(Scenes.SAVED);
        Check.dueSlot("the longest file in slot 0", Scenes.fileBytes(3, Scenes.rows(8, 2)), both, 0);
        Check.dueSlot("the longest file in slot 1", Scenes.fileBytes(2, Scenes.rows(8, 2)), both, 1);
    }

    private static void headersAtTheEdges() {
        for (int serial : new int[] {-1, 0, 1, Integer.MIN_VALUE, Integer.MAX_VALUE}) {
            Check.dueSlot("serial " + serial, Scenes.fileBytes(serial), savedAfter(serial - 1, Scenes.NEW), 1);
        }
        byte[] smallest = Scenes.MADE.slot(0);
        Check.due("the two signs", "[86, 50]", () -> Arrays.toString(Arrays.copyOf(smallest, 2)));
        Check.due("the rounds", Scenes.ROUNDS, () -> smallest[10]);
        Check.due("the bytes of the smallest content", "[1, 0]",
            () -> Arrays.toString(Arrays.copyOfRange(smallest, 11, 13)));
        byte[] longest = Scenes.FULL.then(Scenes.SAVED).slot(1);
        Check.due("the bytes of the longest content", "[9, 1]",
            () -> Arrays.toString(Arrays.copyOfRange(longest, 11, 13)));
        Scene mostRounds = v -> v.make(Scenes.PASSWORD, Scenes.SALT, 40, Scenes.PLENTY);
        Check.due("the most rounds", 40, () -> mostRounds.played().disk(10));
    }

    private static void streamOverFiveBlocks() {
        byte[] content = Forge.contentOf(Scenes.rows(8, 2));
        int[] key = Forge.keyOf(Scenes.PASSWORD, Scenes.SALT, Scenes.ROUNDS);
        byte[] slot = Scenes.FULL.then(Scenes.SAVED).slot(1);
        for (int j : new int[] {0, 1, 3, 4, 63, 64, 127, 128, 191, 192, 255, 256, 263, 264}) {
            Check.due("byte " + j, streamByte(key, 2, j), () -> (byte) (slot[21 + j] ^ content[j]));
        }
    }

    private static void sealsOfAFile() {
        int[] key = Forge.keyOf(Scenes.PASSWORD, Scenes.SALT, Scenes.ROUNDS);
        for (int entries : new int[] {0, 1, 8}) {
            int end = 22 + 33 * entries;
            byte[] slot = Scenes.MADE.then(Scenes.entries(entries, 2)).then(Scenes.SAVED).slot(1);
            dueSeal("the header's, " + entries + " entries", slot, 13, Forge.seal(Arrays.copyOf(slot, 13), key, 3));
            dueSeal("the file's, " + entries + " entries", slot, end, Forge.seal(Arrays.copyOf(slot, end), key, 4));
            Check.due("nothing behind it, " + entries + " entries", Arrays.toString(new byte[300 - end - 8]),
                () -> Arrays.toString(Arrays.copyOfRange(slot, end + 8, 300)));
        }
    }

    private static void dueSeal(String what, byte[] slot, int at, int[] seal) {
        ByteBuffer bytes = ByteBuffer.wrap(slot, at, 8).order(ByteOrder.LITTLE_ENDIAN);
        Check.due(what, seal[0] + " " + seal[1], () -> bytes.getInt() + " " + bytes.getInt());
    }
}
