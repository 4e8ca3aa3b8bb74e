import java.util.Arrays;
import java.util.List;
import java.util.Random;

/** Sentences of what the vault is: kept under a password, safe from failing power and from changed bytes. */
final class CrashSentences {
    private static final String SAVED_WORDS = "it is saved into the slot that is not the newest good one, so that "
        + "power that fails at any byte leaves the vault as it was saved before, or as it is saved now;";
    private static final String CHANGED_WORDS = "and nothing that was changed on the disk is taken for good.";
    private static final long[][] BEFORE = Scenes.rows(3, 1);

    private CrashSentences() {
    }

    static List<Sentence> all() {
        return List.of(
            new Sentence("what it is: kept under a password", "A vault of names and values with what these were "
                + "before, kept under a password on a disk with two slots:", CrashSentences::keptUnderAPassword),
            new Sentence("what it is: power fails", SAVED_WORDS, CrashSentences::powerFailsAtAnyByte),
            new Sentence("what it is: power fails while renewed", SAVED_WORDS, CrashSentences::powerFailsWhileRenewed),
            new Sentence("what it is: power fails again", SAVED_WORDS, CrashSentences::powerFailsAgainAndAgain),
            new Sentence("what it is: any bit changed", CHANGED_WORDS, CrashSentences::anyBitIsChanged),
            new Sentence("what it is: many bytes changed", CHANGED_WORDS, CrashSentences::manyBytesAreChanged));
    }

    /** The serial that a vault has whose next save goes into this slot. */
    private static int serialBefore(int slot) {
        return slot == 0 ? 2 : 3;
    }

    /** Both slots are good, all is saved, and the next save goes into this slot, over a vault without entries. */
    private static Scene savedBefore(int slot) {
        Scene twice = slot == 0 ? Scenes.MADE : Scenes.MADE.then(Scenes.SAVED);
        return twice.then(Scenes.entries(3, 1)).then(Scenes.SAVED);
    }

    private static void keptUnderAPassword() {
        for (int slot = 0; slot < 2; slot++) {
            CrashVault v = savedBefore(slot).played();
            v.shut();
            Check.due("another password", "throws.NoSuchElementException", () -> v.open(Scenes.OTHER_PASSWORD));
            Check.due("the password", serialBefore(slot), () -> v.open(Scenes.PASSWORD));
            String kept = Scenes.seen(serialBefore(slot), BEFORE);
            Check.due("names, values, and what these were before", kept, () -> Check.seen(v));
            int other = 1 - slot;
            Check.due("the slot before", true, () -> v.isGood(1 - other, Scenes.PASSWORD));
            Check.due("the slot now", true, () -> v.isGood(other, Scenes.PASSWORD));
        }
    }

    private static void powerFailsAtAnyByte() {
        for (int slot = 0; slot < 2; slot++) {
            duePower(slot, Scenes.NEW, BEFORE);
            duePower(slot, v -> {
                v.remove(1);
                v.remove(2);
                v.remove(3);
            });
            duePower(slot, v -> {
                v.remove(1);
                v.remove(2);
                v.remove(3);
                Scenes.entries(8, 2).play(v);
            }, Scenes.rows(8, 2));
        }
    }

    /** A save into this slot, of a vault that the change makes, with any power. */
    private static void duePower(int slot, Scene change, long[]... rows) {
        int serial = serialBefore(slot);
        byte[] file = Scenes.fileBytes(serial + 1, rows);
        byte[] there = Scenes.fileBytes(serial - 1);
        Scene changed = savedBefore(slot).then(change);
        for (int power = 0; power <= file.length + 1; power++) {
            int bytes = power;
            boolean enough = power >= file.length;
            String what = rows.length + " entries into slot " + slot + ", power " + power;
            CrashVault v = changed.played();
            Check.due(what, enough, () -> v.save(bytes));
            Check.due(what + ", isOpen()", enough, v::isOpen);
            Check.due(what + ", the slot before", true, () -> v.isGood(1 - slot, Scenes.PASSWORD));
            Check.due(what + ", open", enough ? serial + 1 : serial, () -> v.open(Scenes.PASSWORD));
            String left = enough ? Scenes.seen(serial + 1, rows) : Scenes.seen(serial, BEFORE);
            Check.due(what + ", the vault", left, () -> Check.seen(v));
            byte[] written = Arrays.copyOf(there, 300);
            System.arraycopy(file, 0, written, 0, Math.min(power, file.length));
            Check.dueSlot(what + ", the slot", written, changed.then(w -> w.save(bytes)), slot);
        }
    }

    private static void powerFailsWhileRenewed() {
        for (int slot = 0; slot < 2; slot++) {
            int serial = serialBefore(slot);
            int whole = 30 + 3 * 25;
            for (int power = 0; power <= whole; power++) {
                CrashVault v = savedBefore(slot).played();
                v.renew(Scenes.OTHER_PASSWORD, 4);
                v.save(power);
                String now = power >= whole ? "" + (serial + 1) : "throws.NoSuchElementException";
                Check.due("the new password, power " + power, now, () -> v.open(Scenes.OTHER_PASSWORD));
                Check.due("the password before, power " + power, serial, () -> v.open(Scenes.PASSWORD));
                Check.due("the vault before, power " + power, Scenes.seen(serial, BEFORE), () -> Check.seen(v));
            }
        }
    }

    /** Each time some bytes more are written over what the power that failed before has left. */
    private static void powerFailsAgainAndAgain() {
        for (int slot = 0; slot < 2; slot++) {
            int serial = serialBefore(slot);
            CrashVault v = savedBefore(slot).played();
            for (int power = 0; power < 30 + 3 * 25 + 17; power += 7) {
                int bytes = power;
                v.put(-1 - power, power);
                Check.due("power " + power, false, () -> v.save(bytes));
                Check.due("open after power " + power, serial, () -> v.open(Scenes.PASSWORD));
                Check.due("the vault after power " + power, Scenes.seen(serial, BEFORE), () -> Check.seen(v));
            }
            v.put(-1, 1);
            Check.due("power at last", true, () -> v.save(30 + 3 * 25 + 17));
            Check.due("saved at last", serial + 1, () -> v.open(Scenes.PASSWORD));
            Check.due("the value saved at last", 1, () -> v.value(-1, 0));
        }
    }

    private static void anyBitIsChanged() {
        for (int slot = 0; slot < 2; slot++) {
            int newest = 1 - slot;
            int serial = serialBefore(slot);
            for (int i = 0; i < 300; i++) {
                int at = 300 * newest + i;
                boolean behind = i >= 30 + 3 * 25;
                CrashVault v = savedBefore(slot).played();
                for (int bit = 0; bit < 8; bit++) {
                    String what = "byte " + at + ", bit " + bit;
                    v.spoil(at, 1 << bit);
                    Check.due(what, behind, () -> v.isGood(newest, Scenes.PASSWORD));
                    Check.due(what + ", open", behind ? serial : serial - 1, () -> v.open(Scenes.PASSWORD));
                    Check.due(what + ", entries", behind ? 3 : 0, v::entries);
                    v.spoil(at, 1 << bit);
                    Check.due(what + ", mended", true, () -> v.isGood(newest, Scenes.PASSWORD));
                }
            }
        }
    }

    private static void manyBytesAreChanged() {
        Random random = new Random(600);
        for (int run = 0; run < 400; run++) {
            int slot = run % 2;
            CrashVault v = savedBefore(slot).played();
            int newest = 1 - slot;
            int first = random.nextInt(30 + 3 * 25);
            v.spoil(300 * newest + first, 1 + random.nextInt(255));
            for (int more = random.nextInt(100); more > 0; more--) {
                // Behind the first one, so that no byte is mended by chance.
                v.spoil(300 * newest + first + 1 + random.nextInt(299 - first), random.nextInt());
            }
            Check.due("run " + run, false, () -> v.isGood(newest, Scenes.PASSWORD));
            Check.due("run " + run + ", open", serialBefore(slot) - 1, () -> v.open(Scenes.PASSWORD));
            v.spoil(300 * slot + random.nextInt(30), 1 << random.nextInt(8));
            Check.due("run " + run + ", both", "throws.NoSuchElementException", () -> v.open(Scenes.PASSWORD));
        }
    }
}
