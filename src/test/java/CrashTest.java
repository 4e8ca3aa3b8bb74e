import java.util.Arrays;

/** Power that fails at any byte, and any bit of the disk that is changed. */
public final class CrashTest {
    private static final int PLENTY = 1000;

    private CrashTest() {
    }

    public static void main(String[] args) {
        powerFailsAtAnyByte();
        powerFailsWhileRenewed();
        anyBitIsSpoilt();
        Check.end();
    }

    private static CrashVault savedTwice() {
        CrashVault v = new CrashVault();
        v.make(21, 22, 3, PLENTY);
        v.put(1, 1);
        v.put(2, 2);
        v.save(PLENTY);
        v.put(2, 3);
        v.save(PLENTY);
        return v;
    }

    private static byte[] file(int serial, long password, int rounds, long[]... rows) {
        Forge file = new Forge(Forge.contentOf(rows));
        file.serial = serial;
        file.salt = 22;
        file.rounds = rounds;
        return file.file(password);
    }

    private static void powerFailsAtAnyByte() {
        String before = "[3, 72, 1=[1], 2=[3, 2]]";
        String now = "[4, 97, 1=[1], 2=[4, 3, 2], 9223372036854775807=[9]]";
        byte[] old = file(2, 21, 3, new long[] {1, 1}, new long[] {2, 2});
        byte[] written = file(4, 21, 3, new long[] {1, 1}, new long[] {2, 4, 3, 2}, new long[] {Long.MAX_VALUE, 9});
        int whole = 97;
        for (int power = 0; power <= whole + 1; power++) {
            int bytes = power;
            boolean enough = power >= whole;
            CrashVault v = savedTwice();
            v.put(2, 4);
            v.put(Long.MAX_VALUE, 9);
            Check.due("power " + power, enough, () -> v.save(bytes));
            Check.due("isOpen() after power " + power, enough, v::isOpen);
            byte[] slot = Arrays.copyOf(old, 110);
            System.arraycopy(written, 0, slot, 0, Math.min(power, whole));
            Check.due("slot 1 after power " + power, Arrays.toString(slot),
                () -> Arrays.toString(Check.diskBytes(v, 300, 110)));
            Check.due("slot 0 after power " + power, true, () -> v.isGood(0, 21));
            Check.due("open after power " + power, enough ? 4 : 3, () -> v.open(21));
            Check.due("the vault after power " + power, enough ? now : before, () -> Check.seen(v));
        }
    }

    private static void powerFailsWhileRenewed() {
        int whole = savedTwice().length();
        for (int power = 0; power <= whole; power++) {
            int bytes = power;
            CrashVault v = savedTwice();
            v.renew(31, 4);
            v.save(bytes);
            boolean enough = power >= whole;
            Check.due("the new password, power " + power, enough ? "4" : "throws.NoSuchElementException",
                () -> v.open(31));
            Check.due("the old password, power " + power, 3, () -> v.open(21));
        }
    }

    private static void anyBitIsSpoilt() {
        int whole = savedTwice().length();
        for (int i = 0; i < 300; i++) {
            int at = i;
            CrashVault v = savedTwice();
            for (int bit = 0; bit < 8; bit++) {
                v.spoil(at, 1 << bit);
                Check.due("byte " + at + ", bit " + bit, at >= whole, () -> v.isGood(0, 21));
                Check.due("open, byte " + at + ", bit " + bit, at >= whole ? 3 : 2, () -> v.open(21));
                v.spoil(at, 1 << bit);
                Check.due("mended, byte " + at + ", bit " + bit, true, () -> v.isGood(0, 21));
            }
        }
    }
}
