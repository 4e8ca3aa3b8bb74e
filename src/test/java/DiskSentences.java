import java.util.Arrays;
import java.util.List;

/** Sentences of the promises 15 to 17: the disk. */
final class DiskSentences {
    private static final String INDEX = "IndexOutOfBoundsException";
    private static final int[] NO_BYTES = {-1, 600, 601, Integer.MIN_VALUE, Integer.MAX_VALUE};

    private DiskSentences() {
    }

    static List<Sentence> all() {
        return List.of(
            new Sentence("promise 15: disk", "Byte i of the disk, 0 .. 255.", DiskSentences::disk),
            new Sentence("promise 15: none", "IndexOutOfBoundsException when there is none.",
                DiskSentences::noSuchByte),
            new Sentence("promise 16: spoil", "Byte i of the disk becomes what it was xor the lowest 8 bits of bits.",
                DiskSentences::spoil),
            new Sentence("promise 16: the lowest 8 bits", "Byte i of the disk becomes what it was xor the lowest "
                + "8 bits of bits.", DiskSentences::lowestBits),
            new Sentence("promise 16: none", "IndexOutOfBoundsException when there is none.",
                DiskSentences::noSuchByteToSpoil),
            new Sentence("promise 17: good", "Whether a slot is GOOD for a password.", DiskSentences::isGood),
            new Sentence("promise 17: no slot", "IndexOutOfBoundsException when slot is not 0 or 1.",
                DiskSentences::noSuchSlot));
    }

    private static void disk() {
        for (int i : new int[] {0, 1, 298, 299, 300, 301, 598, 599}) {
            CrashVault v = new CrashVault();
            Check.due("at first", 0, () -> v.disk(i));
            v.spoil(i, 0x7f);
            Check.due("127", 127, () -> v.disk(i));
            v.spoil(i, 0xff);
            Check.due("128", 128, () -> v.disk(i));
            v.spoil(i, 0x7f);
            Check.due("the greatest", 255, () -> v.disk(i));
        }
        CrashVault open = Scenes.MADE.played();
        Check.due("while open", 0x56, () -> open.disk(0));
        open.shut();
        Check.due("while shut", 0x56, () -> open.disk(0));
    }

    private static void noSuchByte() {
        for (int i : NO_BYTES) {
            Check.dueRefused("new, " + i, INDEX, Scenes.NEW, v -> v.disk(i));
            Check.dueRefused("open, " + i, INDEX, Scenes.UNSAVED, v -> v.disk(i));
        }
    }

    private static void spoil() {
        for (int i : new int[] {0, 299, 300, 599}) {
            byte[] due = new byte[600];
            due[i] = (byte) 0x81;
            Check.due("byte " + i + " alone", Arrays.toString(due),
                () -> Arrays.toString(((Scene) v -> v.spoil(i, 0x81)).disk()));
        }
        CrashVault v = Scenes.MADE.then(w -> w.put(1, 2)).played();
        v.spoil(0, 0xff);
        Check.due("what it was xor the bits", 0x56 ^ 0xff, () -> v.disk(0));
        Check.due("the open vault is as it was", "[1, 47, 1=[2]]", () -> Check.seen(v));
        Check.due("the slot is not", false, () -> v.isGood(0, Scenes.PASSWORD));
        v.spoil(0, 0xff);
        Check.due("mended", true, () -> v.isGood(0, Scenes.PASSWORD));
    }

    private static void lowestBits() {
        CrashVault v = new CrashVault();
        Check.dueVoid("0x1234", "nothing", () -> v.spoil(599, 0x1234));
        Check.due("0x1234", 0x34, () -> v.disk(599));
        v.spoil(599, -1);
        Check.due("-1", 0xcb, () -> v.disk(599));
        for (int bits : new int[] {0, 0x100, 0xffffff00, Integer.MIN_VALUE}) {
            v.spoil(599, bits);
            Check.due("none of the lowest 8 in " + bits, 0xcb, () -> v.disk(599));
        }
        v.spoil(599, Integer.MAX_VALUE);
        Check.due("the greatest int", 0x34, () -> v.disk(599));
        v.spoil(599, 0x80);
        Check.due("the eighth bit", 0xb4, () -> v.disk(599));
    }

    private static void noSuchByteToSpoil() {
        for (int i : NO_BYTES) {
            Check.dueRefused("new, " + i, INDEX, Scenes.NEW, v -> v.spoil(i, 255));
            Check.dueRefused("no bits, " + i, INDEX, Scenes.NEW, v -> v.spoil(i, 0));
            Check.dueRefused("open, " + i, INDEX, Scenes.UNSAVED, v -> v.spoil(i, 255));
        }
    }

    private static void isGood() {
        CrashVault v = new CrashVault();
        Check.due("empty slot 0", false, () -> v.isGood(0, 0));
        Check.due("empty slot 1", false, () -> v.isGood(1, 0));
        Scenes.MADE.play(v);
        Check.due("slot 0", true, () -> v.isGood(0, Scenes.PASSWORD));
        Check.due("slot 1", false, () -> v.isGood(1, Scenes.PASSWORD));
        v.put(3, 4);
        v.save(46);
        Check.due("slot 1 but for a byte", false, () -> v.isGood(1, Scenes.PASSWORD));
        v.open(Scenes.PASSWORD);
        v.put(3, 4);
        v.save(47);
        Check.due("slot 1, saved", true, () -> v.isGood(1, Scenes.PASSWORD));
        Check.due("slot 0, not the newest", true, () -> v.isGood(0, Scenes.PASSWORD));
        Check.due("another password", false, () -> v.isGood(1, Scenes.OTHER_PASSWORD));
        Check.due("the open vault is as it was", "[2, 47, 3=[4]]", () -> Check.seen(v));
        v.shut();
        Check.due("shut", true, () -> v.isGood(1, Scenes.PASSWORD));
        Check.due("is still shut", false, v::isOpen);
    }

    private static void noSuchSlot() {
        for (int slot : new int[] {-1, 2, 3, Integer.MIN_VALUE, Integer.MAX_VALUE}) {
            Check.dueRefused("new, slot " + slot, INDEX, Scenes.NEW, v -> v.isGood(slot, 1));
            Check.dueRefused("open, slot " + slot, INDEX, Scenes.UNSAVED, v -> v.isGood(slot, Scenes.PASSWORD));
        }
    }
}
