import java.util.Arrays;

/** Files made by hand: what is good, what is not, and which of two good slots is the newest. */
public final class GoodSlotTest {
    private static final long PASSWORD = 0x123456789abcdef0L;

    private GoodSlotTest() {
    }

    public static void main(String[] args) {
        goodContents();
        contentsThatAreNone();
        headersThatAreNone();
        roomInTheSlot();
        newestOfTwo();
        newestIsSparedBySave();
        whatIsOpenedIsSavedAgain();
        Check.end();
    }

    /** Of a file by itself, in either slot. */
    private static void due(String what, boolean good, byte[] file) {
        for (int slot = 0; slot < 2; slot++) {
            int at = slot;
            CrashVault v = new CrashVault();
            Forge.plant(v, at, file);
            Check.due(what + ", slot " + at, good, () -> v.isGood(at, PASSWORD));
            Check.due(what + ", the other slot", false, () -> v.isGood(1 - at, PASSWORD));
            if (!good) {
                Check.due(what + ", open", "throws.NoSuchElementException", () -> v.open(PASSWORD));
            }
        }
    }

    private static void dueContent(String what, boolean good, byte[] content) {
        due(what, good, new Forge(content).file(PASSWORD));
    }

    private static byte[] count(int entries) {
        return new byte[] {(byte) entries};
    }

    private static long[][] rows(int entries, int olds) {
        long[][] rows = new long[entries][olds + 2];
        for (int i = 0; i < entries; i++) {
            Arrays.fill(rows[i], -1 - i);
            rows[i][0] = i + 1;
        }
        return rows;
    }

    private static void goodContents() {
        dueContent("no entries", true, Forge.contentOf());
        for (int olds = 0; olds <= 2; olds++) {
            dueContent("one entry", true, Forge.contentOf(rows(1, olds)));
            dueContent("eight entries", true, Forge.contentOf(rows(8, olds)));
        }
        byte[] edges = Forge.contentOf(new long[] {Long.MIN_VALUE, 0}, new long[] {-1, 0},
            new long[] {1, 0, 0, 0}, new long[] {Long.MAX_VALUE, Long.MIN_VALUE, 1});
        dueContent("names as longs with their sign", true, edges);
        CrashVault v = new CrashVault();
        Forge file = new Forge(edges);
        file.serial = -77;
        file.salt = -78;
        file.rounds = 40;
        Forge.plant(v, 1, file.file(PASSWORD));
        Check.due("a negative serial", -77, () -> v.open(PASSWORD));
        Check.due("what was opened", "[-77, 122, -9223372036854775808=[0], -1=[0], 1=[0, 0, 0], "
            + "9223372036854775807=[-9223372036854775808, 1]]", () -> Check.seen(v));
    }

    private static void contentsThatAreNone() {
        dueContent("no bytes", false, new byte[0]);
        dueContent("nine entries", false, Forge.contentOf(rows(9, 0)));
        dueContent("nine entries told, eight there", false, Forge.join(count(9),
            Arrays.copyOfRange(Forge.contentOf(rows(8, 0)), 1, 137)));
        dueContent("255 entries told", false, Forge.join(count(255), new byte[200]));
        dueContent("an entry told, none there", false, count(1));
        dueContent("none told, an entry there", false, Forge.join(count(0), Forge.entry(0, 1, 1)));
        dueContent("a byte too many", false, Forge.join(Forge.contentOf(rows(2, 1)), count(0)));
        for (int olds = 0; olds <= 2; olds++) {
            byte[] whole = Forge.contentOf(rows(2, olds));
            for (int size = 0; size < whole.length; size++) {
                dueContent("only " + size + " bytes", false, Arrays.copyOf(whole, size));
            }
        }
        dueContent("name 0 alone", false, Forge.contentOf(new long[] {0, 1}));
        dueContent("name 0 in order", false, Forge.contentOf(new long[] {-1, 1}, new long[] {0, 1}));
        dueContent("a name twice", false, Forge.contentOf(new long[] {5, 1}, new long[] {5, 1}));
        dueContent("names out of order", false, Forge.contentOf(new long[] {5, 1}, new long[] {4, 1}));
        dueContent("names in order without their sign", false, Forge.contentOf(new long[] {5, 1}, new long[] {-4, 1}));
        dueContent("the last two out of order", false,
            Forge.contentOf(new long[] {1, 1}, new long[] {9, 1}, new long[] {8, 1}));
        dueContent("three old values", false, Forge.contentOf(new long[] {1, 2, 3, 4, 5}));
        dueContent("255 old values told", false, Forge.join(count(1), Forge.entry(255, 1, 2)));
        dueContent("two old values told, one there", false, Forge.join(count(1), Forge.entry(2, 1, 2, 3)));
        dueContent("one old value told, two there", false, Forge.join(count(1), Forge.entry(1, 1, 2, 3, 4)));
    }

    private static void headersThatAreNone() {
        byte[] content = Forge.contentOf(rows(2, 1));
        for (int rounds = 0; rounds < 256; rounds++) {
            Forge file = new Forge(content);
            file.rounds = rounds;
            due("rounds " + rounds, rounds >= 1 && rounds <= 40, file.file(PASSWORD));
        }
        Forge first = new Forge(content);
        first.sign0 = 0x57;
        due("the first byte is another", false, first.file(PASSWORD));
        Forge second = new Forge(content);
        second.sign1 = 0x33;
        due("the second byte is another", false, second.file(PASSWORD));
        Forge header = new Forge(content);
        header.headerSealRight = false;
        due("the header's seal is wrong", false, header.file(PASSWORD));
        Forge whole = new Forge(content);
        whole.fileSealRight = false;
        due("the file's seal is wrong", false, whole.file(PASSWORD));
        Forge shorter = new Forge(content);
        shorter.declared = content.length - 1;
        due("a byte less is told", false, shorter.file(PASSWORD));
        Forge longer = new Forge(content);
        longer.declared = content.length + 1;
        due("a byte more is told", false, longer.file(PASSWORD));
    }

    private static void roomInTheSlot() {
        byte[] content = Forge.contentOf(rows(8, 2));
        dueContent("the longest", true, content);
        for (int size : new int[] {266, 270, 271, 272, 300, 579, 600}) {
            dueContent("a content of " + size + " bytes", false, Arrays.copyOf(content, size));
        }
        for (int told : new int[] {271, 272, 299, 571, 579, 580, 32767, 32768, 65535}) {
            Forge file = new Forge(content);
            file.declared = told;
            due(told + " bytes are told", false, file.file(PASSWORD));
        }
    }

    private static byte[] fileWith(int serial, int entries, long password) {
        Forge file = new Forge(Forge.contentOf(rows(entries, 0)));
        file.serial = serial;
        return file.file(password);
    }

    private static void dueNewest(int serial0, int serial1, int slot) {
        CrashVault v = new CrashVault();
        Forge.plant(v, 0, fileWith(serial0, 1, PASSWORD));
        Forge.plant(v, 1, fileWith(serial1, 2, PASSWORD));
        String what = "serials " + serial0 + " and " + serial1;
        Check.due(what, slot == 0 ? serial0 : serial1, () -> v.open(PASSWORD));
        Check.due(what + ", the vault", slot + 1, v::entries);
    }

    private static void newestOfTwo() {
        dueNewest(1, 2, 1);
        dueNewest(2, 1, 0);
        dueNewest(1, 3, 1);
        dueNewest(5, 5, 0);
        dueNewest(-1, 0, 1);
        dueNewest(1, -1, 0);
        dueNewest(Integer.MIN_VALUE, Integer.MAX_VALUE, 1);
        dueNewest(Integer.MAX_VALUE, Integer.MIN_VALUE, 0);
        CrashVault v = new CrashVault();
        Forge.plant(v, 0, fileWith(1, 1, PASSWORD));
        Forge.plant(v, 1, fileWith(2, 2, PASSWORD + 1));
        Check.due("each slot has its own password: 0", 1, () -> v.open(PASSWORD));
        Check.due("each slot has its own password: 1", 2, () -> v.open(PASSWORD + 1));
    }

    private static void newestIsSparedBySave() {
        CrashVault v = new CrashVault();
        Forge.plant(v, 0, fileWith(7, 1, PASSWORD));
        Forge.plant(v, 1, fileWith(7, 2, PASSWORD));
        v.open(PASSWORD);
        v.save(1000);
        Check.due("of two alike slot 0 is spared", 7, () -> v.disk(2));
        Check.due("of two alike slot 1 is written", 8, () -> v.disk(302));
        CrashVault w = new CrashVault();
        Forge.plant(w, 0, fileWith(1, 1, PASSWORD));
        Forge.plant(w, 1, fileWith(9, 2, PASSWORD + 1));
        w.open(PASSWORD);
        w.renew(PASSWORD + 1, 1);
        w.save(1000);
        Check.due("the password of before counts: slot 0 is spared", 1, () -> w.disk(2));
        Check.due("the password of before counts: slot 1 is written", 2, () -> w.disk(302));
        w.save(1000);
        Check.due("the saved password counts then: slot 0 is written", 3, () -> w.disk(2));
        CrashVault last = new CrashVault();
        Forge.plant(last, 0, fileWith(Integer.MAX_VALUE, 1, PASSWORD));
        last.open(PASSWORD);
        last.save(1000);
        last.save(1000);
        Check.due("behind the greatest serial slot 1 is written again", 1, () -> last.disk(302));
        Check.due("behind the greatest serial slot 0 is spared", 0xff, () -> last.disk(2));
    }

    private static void whatIsOpenedIsSavedAgain() {
        Forge file = new Forge(Forge.contentOf(new long[] {-3, 1, 2}, new long[] {4, 5}));
        CrashVault v = new CrashVault();
        file.serial = 10;
        file.salt = 0x01020304;
        file.rounds = 6;
        Forge.plant(v, 0, file.file(PASSWORD));
        file.serial = 11;
        file.salt = 0x81828384;
        file.rounds = 7;
        Forge.plant(v, 1, file.file(PASSWORD));
        Check.due("each slot has its own salt and rounds", 11, () -> v.open(PASSWORD));
        v.save(1000);
        file.serial = 12;
        byte[] slot = file.file(PASSWORD);
        Check.due("salt and rounds of the slot that was opened", Arrays.toString(slot),
            () -> Arrays.toString(Check.diskBytes(v, 0, slot.length)));
    }
}
