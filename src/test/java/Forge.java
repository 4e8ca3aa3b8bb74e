import java.io.ByteArrayOutputStream;
import java.nio.ByteBuffer;
import java.nio.ByteOrder;
import java.util.Arrays;

/**
 * Files made from the words of the document alone, apart from the program's own way of making
 * them, so that the two can be held against one another; and files that no vault would write.
 */
final class Forge {
    int sign0 = 0x56;
    int sign1 = 0x32;
    int serial = 1;
    int salt = 0;
    int rounds = 1;
    int declared;
    byte[] content;
    boolean headerSealRight = true;
    boolean fileSealRight = true;

    Forge(byte[] content) {
        this.content = content;
        this.declared = content.length;
    }

    byte[] file(long password) {
        int[] key = keyOf(password, salt, rounds);
        ByteBuffer file = ByteBuffer.allocate(29 + content.length).order(ByteOrder.LITTLE_ENDIAN);
        file.put((byte) sign0).put((byte) sign1).putInt(serial).putInt(salt);
        file.put((byte) rounds).putShort((short) declared);
        putSeal(file, key, 3, headerSealRight);
        for (int j = 0; j < content.length; j++) {
            ByteBuffer stream = ByteBuffer.allocate(64).order(ByteOrder.LITTLE_ENDIAN);
            for (int word : block(key, j / 64, serial, 5)) {
                stream.putInt(word);
            }
            file.put((byte) (content[j] ^ stream.get(j % 64)));
        }
        putSeal(file, key, 4, fileSealRight);
        return file.array();
    }

    private static void putSeal(ByteBuffer file, int[] key, int z, boolean right) {
        int[] seal = seal(Arrays.copyOf(file.array(), file.position()), key, z);
        file.putInt(seal[0]).putInt(right ? seal[1] : ~seal[1]);
    }

    /** Puts the file on a disk that is all 0 there. */
    static void plant(CrashVault v, int slot, byte[] file) {
        for (int i = 0; i < file.length && i < 300; i++) {
            if (file[i] != 0) {
                v.spoil(300 * slot + i, file[i]);
            }
        }
    }

    /** Each row: the name, the value, the old values. */
    static byte[] contentOf(long[]... rows) {
        byte[][] parts = new byte[rows.length + 1][];
        parts[0] = new byte[] {(byte) rows.length};
        for (int i = 0; i < rows.length; i++) {
            parts[i + 1] = entry(rows[i].length - 2, rows[i]);
        }
        return join(parts);
    }

    static byte[] entry(int olds, long... nameAndValues) {
        ByteBuffer bytes = ByteBuffer.allocate(8 * nameAndValues.length + 1).order(ByteOrder.LITTLE_ENDIAN);
        bytes.putLong(nameAndValues[0]).put((byte) olds);
        for (int i = 1; i < nameAndValues.length; i++) {
            bytes.putLong(nameAndValues[i]);
        }
        return bytes.array();
    }

    static byte[] join(byte[]... parts) {
        ByteArrayOutputStream all = new ByteArrayOutputStream();
        for (byte[] part : parts) {
            all.write(part, 0, part.length);
        }
        return all.toByteArray();
    }

    static int[] keyOf(long password, int salt, int rounds) {
        int[] key = seal(new byte[0], new int[] {(int) password, (int) (password >> 32), salt, 0}, 1);
        for (int i = 0; i < rounds; i++) {
            key = Arrays.copyOf(block(key, i, 0, 2), 4);
        }
        return key;
    }

    static int[] seal(byte[] bytes, int[] key, int z) {
        ByteBuffer filled = ByteBuffer.wrap(Arrays.copyOf(bytes, (bytes.length + 3) / 4 * 4));
        filled.order(ByteOrder.LITTLE_ENDIAN);
        int[] seal = key;
        for (int i = 0; filled.hasRemaining(); i++) {
            seal = Arrays.copyOf(block(seal, filled.getInt(), i, z), 4);
        }
        return Arrays.copyOf(block(seal, bytes.length, -1, z), 4);
    }

    static int[] block(int[] k, int x, int y, int z) {
        int[] first = {0x61707865, 0x3320646e, 0x79622d32, 0x6b206574,
            k[0], k[1], k[2], k[3], k[0], k[1], k[2], k[3], x, y, z, 0};
        int[][] fours = {{0, 4, 8, 12}, {1, 5, 9, 13}, {2, 6, 10, 14}, {3, 7, 11, 15},
            {0, 5, 10, 15}, {1, 6, 11, 12}, {2, 7, 8, 13}, {3, 4, 9, 14}};
        int[] ints = first.clone();
        for (int i = 0; i < 4 * fours.length; i++) {
            stir(ints, fours[i % fours.length]);
        }
        for (int i = 0; i < ints.length; i++) {
            ints[i] += first[i];
        }
        return ints;
    }

    private static void stir(int[] v, int[] at) {
        int[] turns = {16, 12, 8, 7};
        for (int i = 0; i < turns.length; i++) {
            int sum = i % 2 == 0 ? at[0] : at[2];
            int more = i % 2 == 0 ? at[1] : at[3];
            int turned = i % 2 == 0 ? at[3] : at[1];
            v[sum] += v[more];
            v[turned] = Integer.rotateLeft(v[turned] ^ v[sum], turns[i]);
        }
    }
}
