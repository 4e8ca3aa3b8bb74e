import java.util.Arrays;
import java.util.List;

/** Sentences of the terms: which slot is good, and which of two is the newest. */
final class GoodSentences {
    private static final String GOOD_WORDS = "A slot is GOOD for a password if it holds such a file: the header's "
        + "first two bytes, rounds and both seals are right, the file has room in the slot, and what the stream gives "
        + "is a content: at most 8 entries, names not 0 and each greater than the one before, at most two old values "
        + "each, and just so many bytes.";
    private static final String NEWEST_WORDS = "The NEWEST good slot is that with the greatest serial (as an int with "
        + "its sign), of two slot 0.";
    private static final int LONGEST_CONTENT = 265;

    private GoodSentences() {
    }

    static List<Sentence> all() {
        return List.of(
            new Sentence("terms: good for a password", GOOD_WORDS, GoodSentences::forAPassword),
            new Sentence("terms: good, first two bytes", GOOD_WORDS, GoodSentences::firstTwoBytes),
            new Sentence("terms: good, rounds", GOOD_WORDS, GoodSentences::rounds),
            new Sentence("terms: good, both seals", GOOD_WORDS, GoodSentences::bothSeals),
            new Sentence("terms: good, room in the slot", GOOD_WORDS, GoodSentences::roomInTheSlot),
            new Sentence("terms: good, at most 8 entries", GOOD_WORDS, GoodSentences::atMostEightEntries),
            new Sentence("terms: good, names not 0", GOOD_WORDS, GoodSentences::namesNotZero),
            new Sentence("terms: good, names greater", GOOD_WORDS, GoodSentences::namesGreater),
            new Sentence("terms: good, at most two old values", GOOD_WORDS, GoodSentences::atMostTwoOldValues),
            new Sentence("terms: good, just so many bytes", GOOD_WORDS, GoodSentences::justSoManyBytes),
            new Sentence("terms: newest, greatest serial", NEWEST_WORDS, GoodSentences::greatestSerial),
            new Sentence("terms: newest, with its sign", NEWEST_WORDS, GoodSentences::serialsHaveASign),
            new Sentence("terms: newest, of two slot 0", NEWEST_WORDS, GoodSentences::ofTwoAlikeSlotZero),
            new Sentence("terms: newest, only of the good", NEWEST_WORDS, GoodSentences::onlyGoodOnesCount));
    }

    /** Of a file by itself, in either slot: whether it is good, and whether it can be opened. */
    private static void due(String what, boolean good, Forge forged) {
        byte[] file = forged.file(Scenes.PASSWORD);
        for (int slot = 0; slot < 2; slot++) {
            int at = slot;
            CrashVault v = Scenes.planted(slot, file).played();
            Check.due(what + ", slot " + slot, good, () -> v.isGood(at, Scenes.PASSWORD));
            Check.due(what + ", the other slot", false, () -> v.isGood(1 - at, Scenes.PASSWORD));
            Check.due(what + ", open", good ? "" + forged.serial : "throws.NoSuchElementException",
                () -> v.open(Scenes.PASSWORD));
        }
    }

    private static void dueContent(String what, boolean good, byte[] content) {
        due(what, good, new Forge(content));
    }

    private static void dueRows(String what, boolean good, long[]... rows) {
        dueContent(what, good, Forge.contentOf(rows));
    }

    private static byte[] told(int number) {
        return new byte[] {(byte) number};
    }

    private static void forAPassword() {
        CrashVault v = Scenes.planted(1, Scenes.fileBytes(5, Scenes.rows(2, 1))).played();
        Check.due("its password", true, () -> v.isGood(1, Scenes.PASSWORD));
        for (int bit = 0; bit < 64; bit++) {
            long other = Scenes.PASSWORD ^ 1L << bit;
            Check.due("bit " + bit + " is another", false, () -> v.isGood(1, other));
            Check.due("open, bit " + bit + " is another", "throws.NoSuchElementException", () -> v.open(other));
        }
    }

    private static void firstTwoBytes() {
        due("as they should be", true, Scenes.file(1, Scenes.rows(2, 1)));
        for (int bit = 0; bit < 8; bit++) {
            Forge first = Scenes.file(1, Scenes.rows(2, 1));
            first.sign0 ^= 1 << bit;
            due("the first byte is " + first.sign0, false, first);
            Forge second = Scenes.file(1, Scenes.rows(2, 1));
            second.sign1 ^= 1 << bit;
            due("the second byte is " + second.sign1, false, second);
        }
    }

    private static void rounds() {
        for (int rounds = 0; rounds <= 255; rounds++) {
            Forge file = new Forge(Forge.contentOf());
            file.rounds = rounds;
            due("rounds " + rounds, rounds >= 1 && rounds <= 40, file);
        }
    }

    private static void bothSeals() {
        Forge right = Scenes.file(1, Scenes.rows(2, 1));
        int end = right.file(Scenes.PASSWORD).length - 8;
        for (int i = 0; i < 8; i++) {
            dueSpoilt("the header's seal, byte " + i, right, 13 + i);
            dueSpoilt("the file's seal, byte " + i, right, end + i);
        }
        // Made anew, so that the file's seal is right for the header's wrong one.
        Forge header = Scenes.file(1, Scenes.rows(2, 1));
        header.headerSealRight = false;
        due("the header's seal alone", false, header);
        Forge whole = Scenes.file(1, Scenes.rows(2, 1));
        whole.fileSealRight = false;
        due("the file's seal alone", false, whole);
    }

    private static void dueSpoilt(String what, Forge file, int at) {
        CrashVault v = Scenes.planted(0, file.file(Scenes.PASSWORD)).played();
        for (int bit = 0; bit < 8; bit++) {
            v.spoil(at, 1 << bit);
            Check.due(what + ", bit " + bit, false, () -> v.isGood(0, Scenes.PASSWORD));
            v.spoil(at, 1 << bit);
        }
        Check.due(what + ", mended", true, () -> v.isGood(0, Scenes.PASSWORD));
    }

    private static void roomInTheSlot() {
        byte[] longest = Forge.contentOf(Scenes.rows(8, 2));
        dueContent("the longest content", true, longest);
        for (int size : new int[] {270, 271, 272, 273, 300, 571, 572}) {
            dueContent("a content of " + size + " bytes", false, Arrays.copyOf(longest, size));
        }
        // The header's seal is right, so that only the room can tell.
        for (int size : new int[] {271, 272, 300, 571, 572, 579, 580, 32767, 32768, 65535}) {
            Forge file = new Forge(longest);
            file.declared = size;
            due(size + " bytes are told", false, file);
        }
    }

    private static void atMostEightEntries() {
        for (int entries = 0; entries <= 15; entries++) {
            dueRows(entries + " entries", entries <= 8, Scenes.rows(entries, 0));
        }
        for (int entries : new int[] {127, 128, 255}) {
            dueContent(entries + " entries are told", false, Forge.join(told(entries), new byte[250]));
        }
    }

    private static void namesNotZero() {
        dueRows("name 0 alone", false, new long[] {0, 1});
        dueRows("name 0 behind -1", false, new long[] {-1, 1}, new long[] {0, 1});
        dueRows("name 0 before 1", false, new long[] {0, 1}, new long[] {1, 1});
        dueRows("name 0 between", false, new long[] {-1, 1}, new long[] {0, 1}, new long[] {1, 1});
        dueRows("-1, then 1", true, new long[] {-1, 0}, new long[] {1, 0});
        dueRows("the low half is 0", true, new long[] {1L << 32, 0});
    }

    private static void namesGreater() {
        dueRows("the next one", true, new long[] {5, 1}, new long[] {6, 1});
        dueRows("the same one", false, new long[] {5, 1}, new long[] {5, 1});
        dueRows("the one before", false, new long[] {5, 1}, new long[] {4, 1});
        dueRows("the least, then the greatest", true, new long[] {Long.MIN_VALUE, 1}, new long[] {Long.MAX_VALUE, 1});
        dueRows("the greatest, then the least", false, new long[] {Long.MAX_VALUE, 1}, new long[] {Long.MIN_VALUE, 1});
        dueRows("1, then -1", false, new long[] {1, 1}, new long[] {-1, 1});
        dueRows("the high half is greater", true, new long[] {5, 1}, new long[] {1L << 32 | 4, 1});
        for (int i = 1; i < 8; i++) {
            long[][] rows = Scenes.rows(8, 0);
            rows[i][0] = rows[i - 1][0];
            dueRows("entry " + i + " as the one before", false, rows);
        }
    }

    private static void atMostTwoOldValues() {
        for (int olds = 0; olds <= 4; olds++) {
            dueRows(olds + " old values", olds <= 2, Scenes.rows(1, olds));
            dueRows(olds + " old values of the last", olds <= 2, new long[] {-1, 1}, Scenes.rows(1, olds)[0]);
        }
        for (int olds : new int[] {3, 127, 128, 254, 255}) {
            dueContent(olds + " old values are told", false,
                Forge.join(told(1), Forge.entry(olds, 1, 2), new byte[230]));
        }
    }

    private static void justSoManyBytes() {
        dueContent("none at all", false, new byte[0]);
        dueContent("an entry is told, none is there", false, told(1));
        dueContent("none is told, an entry is there", false, Forge.join(told(0), Forge.entry(0, 1, 1)));
        for (int olds = 0; olds <= 2; olds++) {
            byte[] whole = Forge.contentOf(Scenes.rows(2, olds));
            for (int size = 0; size <= whole.length + 9; size++) {
                dueContent(size + " of " + whole.length + " bytes", size == whole.length, Arrays.copyOf(whole, size));
            }
        }
        dueContent("two old values are told, one is there", false, Forge.join(told(1), Forge.entry(2, 1, 2, 3)));
        dueContent("one old value is told, two are there", false, Forge.join(told(1), Forge.entry(1, 1, 2, 3, 4)));
        byte[] longest = Forge.contentOf(Scenes.rows(8, 2));
        dueContent("a byte behind the longest", false, Arrays.copyOf(longest, LONGEST_CONTENT + 1));
        dueContent("a byte less than the longest", false, Arrays.copyOf(longest, LONGEST_CONTENT - 1));
    }

    /** Two good slots, with one entry in slot 0 and two in slot 1. */
    private static Scene both(int serial0, int serial1) {
        return Scenes.planted(0, Scenes.fileBytes(serial0, Scenes.rows(1, 0)))
            .then(Scenes.planted(1, Scenes.fileBytes(serial1, Scenes.rows(2, 0))));
    }

    private static void dueNewest(int serial0, int serial1, int slot) {
        String what = "serials " + serial0 + " and " + serial1;
        int newest = slot == 0 ? serial0 : serial1;
        CrashVault v = both(serial0, serial1).played();
        Check.due(what, newest, () -> v.open(Scenes.PASSWORD));
        Check.due(what + ", the vault", slot + 1, v::entries);
        v.save(Scenes.PLENTY);
        Check.due(what + ", the newest is spared", newest & 0xff, () -> v.disk(300 * slot + 2));
        Check.due(what + ", the other is written", newest + 1 & 0xff, () -> v.disk(300 * (1 - slot) + 2));
    }

    private static void greatestSerial() {
        dueNewest(1, 2, 1);
        dueNewest(2, 1, 0);
        dueNewest(255, 256, 1);
        dueNewest(256, 255, 0);
        dueNewest(7, 70, 1);
        dueNewest(Integer.MAX_VALUE - 1, Integer.MAX_VALUE, 1);
    }

    private static void serialsHaveASign() {
        dueNewest(-1, 0, 1);
        dueNewest(0, -1, 0);
        dueNewest(-2, -1, 1);
        dueNewest(1, Integer.MIN_VALUE, 0);
        dueNewest(Integer.MIN_VALUE, Integer.MAX_VALUE, 1);
        dueNewest(Integer.MAX_VALUE, Integer.MIN_VALUE, 0);
    }

    private static void ofTwoAlikeSlotZero() {
        for (int serial : new int[] {1, 0, -1, Integer.MIN_VALUE, Integer.MAX_VALUE}) {
            dueNewest(serial, serial, 0);
        }
    }

    private static void onlyGoodOnesCount() {
        CrashVault v = both(5, 9).played();
        v.spoil(330, 1);
        Check.due("the greater one is spoilt", 5, () -> v.open(Scenes.PASSWORD));
        CrashVault w = both(9, 5).played();
        w.spoil(30, 1);
        Check.due("the greater one in slot 0 is spoilt", 5, () -> w.open(Scenes.PASSWORD));
        CrashVault other = Scenes.planted(0, Scenes.fileBytes(5))
            .then(Scenes.planted(1, Scenes.file(9).file(Scenes.OTHER_PASSWORD))).played();
        Check.due("the greater one has another password", 5, () -> other.open(Scenes.PASSWORD));
        Check.due("and is the newest for that", 9, () -> other.open(Scenes.OTHER_PASSWORD));
    }
}
