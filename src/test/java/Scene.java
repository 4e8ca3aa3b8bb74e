import java.util.Arrays;

/**
 * A run of calls that is played on a new object for each look at it: the 600 bytes of a disk are
 * more than an object has calls.
 */
interface Scene {
    int BYTES_A_LOOK = 100;

    void play(CrashVault v);

    default Scene then(Scene more) {
        return v -> {
            play(v);
            more.play(v);
        };
    }

    default CrashVault played() {
        CrashVault v = new CrashVault();
        play(v);
        return v;
    }

    default byte[] disk() {
        return Forge.join(slot(0), slot(1));
    }

    default byte[] slot(int slot) {
        byte[][] looks = new byte[300 / BYTES_A_LOOK][];
        for (int i = 0; i < looks.length; i++) {
            looks[i] = Check.diskBytes(played(), 300 * slot + BYTES_A_LOOK * i, BYTES_A_LOOK);
        }
        return Forge.join(looks);
    }

    /** All there is to know: the disk and the vault now, and both as one more save leaves them. */
    default String whole() {
        return now() + then(Scenes::goOn).now();
    }

    private String now() {
        return Check.seen(played()) + Arrays.toString(disk());
    }
}
