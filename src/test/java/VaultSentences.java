import java.util.Arrays;
import java.util.List;

/** Sentences of the promises 1 to 9: the vault as a whole. */
final class VaultSentences {
    private static final String MAKE_REFUSED_WORDS = "IllegalArgumentException when rounds is not 1 .. 40, or power "
        + "is negative.";
    private static final String RENEW_WORDS = "From now on (if it is saved) the vault has another password, and other "
        + "rounds.";
    private static final String STATE = "IllegalStateException";
    private static final String ARGUMENT = "IllegalArgumentException";
    private static final String ELEMENT = "NoSuchElementException";
    private static final int[] NO_ROUNDS = {0, 41, -1, 255, 256, 257, Integer.MIN_VALUE, Integer.MAX_VALUE};

    private VaultSentences() {
    }

    static List<Sentence> all() {
        return List.of(
            new Sentence("promise 1: a new object", "The disk is all 0, the vault is shut.",
                VaultSentences::newObject),
            new Sentence("promise 2: without entries", "Makes a new vault without entries, and opens it, whatever "
                + "was open:", VaultSentences::makeWhateverWasOpen),
            new Sentence("promise 2: disk and serial", "the disk becomes all 0, the serial is 0;",
                VaultSentences::makeClearsTheDisk),
            new Sentence("promise 2: power", "then it is saved: true; false when power fails.",
                VaultSentences::makeAtAnyPower),
            new Sentence("promise 2: rounds refused", MAKE_REFUSED_WORDS, VaultSentences::makeWithoutRounds),
            new Sentence("promise 2: power refused", MAKE_REFUSED_WORDS, VaultSentences::makeWithNegativePower),
            new Sentence("promise 3: open", "Opens the vault of the newest good slot for the password, whatever was "
                + "open: its serial.", VaultSentences::openWhateverWasOpen),
            new Sentence("promise 3: none good", "NoSuchElementException when no slot is good.",
                VaultSentences::openWithoutAGoodSlot),
            new Sentence("promise 4: shut", "The vault is shut, what was not saved is lost: whether it was open.",
                VaultSentences::shut),
            new Sentence("promise 5: is open", "Whether the vault is open.", VaultSentences::isOpen),
            new Sentence("promise 6: length", "How many bytes the file of the vault has if it is saved now.",
                VaultSentences::lengthFromEmptyToFull),
            new Sentence("promise 6: shut", "IllegalStateException when it is shut.",
                () -> dueRefusedWhileShut(CrashVault::length)),
            new Sentence("promise 7: save", "SAVES: true; false when power fails.", VaultSentences::saveAtAnyPower),
            new Sentence("promise 7: shut", "IllegalStateException when the vault is shut;",
                () -> dueRefusedWhileShut(v -> v.save(Scenes.PLENTY))),
            new Sentence("promise 7: power refused", "IllegalArgumentException when power is negative.",
                VaultSentences::saveWithNegativePower),
            new Sentence("promise 8: renew", RENEW_WORDS, VaultSentences::renewIfSaved),
            new Sentence("promise 8: renew is lost", RENEW_WORDS, VaultSentences::renewIsLostUnlessSaved),
            new Sentence("promise 8: shut", "IllegalStateException when it is shut;",
                () -> dueRefusedWhileShut(v -> v.renew(1, 1))),
            new Sentence("promise 8: rounds refused", "IllegalArgumentException when rounds is not 1 .. 40.",
                VaultSentences::renewWithoutRounds),
            new Sentence("promise 9: serial", "The serial of the vault, as it was made, opened or saved last.",
                VaultSentences::serial),
            new Sentence("promise 9: shut", "IllegalStateException when it is shut.",
                () -> dueRefusedWhileShut(CrashVault::serial)));
    }

    /** In each way that a vault can be shut. */
    static void dueRefusedWhileShut(Scene call) {
        Check.dueRefused("new", STATE, Scenes.NEW, call);
        Check.dueRefused("shut", STATE, Scenes.SHUT, call);
        Check.dueRefused("power failed", STATE, Scenes.FAILED, call);
        Scene notMade = Scenes.FULL.then(v -> v.make(Scenes.PASSWORD, Scenes.SALT, Scenes.ROUNDS, 29));
        Check.dueRefused("power failed while it was made", STATE, notMade, call);
    }

    private static void newObject() {
        Check.due("the disk", Arrays.toString(new byte[600]), () -> Arrays.toString(Scenes.NEW.disk()));
        CrashVault v = new CrashVault();
        Check.due("isOpen()", false, v::isOpen);
        Check.due("shut()", false, v::shut);
        for (long password : new long[] {0, 1, -1, Long.MIN_VALUE, Long.MAX_VALUE}) {
            Check.due("open", "throws.NoSuchElementException", () -> v.open(password));
        }
    }

    private static void makeWhateverWasOpen() {
        for (Scene before : List.of(Scenes.NEW, Scenes.SHUT, Scenes.FAILED, Scenes.UNSAVED, Scenes.FULL)) {
            CrashVault v = before.played();
            Check.due("make", true, () -> v.make(8, 7, 6, Scenes.PLENTY));
            Check.due("isOpen()", true, v::isOpen);
            Check.due("the vault", "[1, 30]", () -> Check.seen(v));
            Check.due("the password before opens nothing", "throws.NoSuchElementException",
                () -> v.open(Scenes.PASSWORD));
            Check.due("its password", 1, () -> v.open(8));
            v.save(Scenes.PLENTY);
            Check.due("its salt", 7, () -> v.disk(306));
            Check.due("its rounds", 6, () -> v.disk(310));
        }
    }

    private static void makeClearsTheDisk() {
        Scene full = Scenes.FULL.then(Scenes.SAVED).then(Scenes.SAVED).then(v -> {
            v.spoil(299, 255);
            v.spoil(599, 255);
        });
        Scene again = full.then(Scenes.MADE);
        Check.dueSlot("slot 0", Scenes.fileBytes(1), again, 0);
        Check.dueSlot("slot 1", new byte[0], again, 1);
        Check.due("the serial", 1, () -> again.played().serial());
        Scene withoutPower = full.then(v -> v.make(1, 1, 1, 0));
        Check.due("without power", Arrays.toString(new byte[600]), () -> Arrays.toString(withoutPower.disk()));
    }

    private static void makeAtAnyPower() {
        byte[] file = Scenes.fileBytes(1);
        for (int power = 0; power <= 31; power++) {
            int bytes = power;
            Scene make = v -> v.make(Scenes.PASSWORD, Scenes.SALT, Scenes.ROUNDS, bytes);
            CrashVault v = Scenes.UNSAVED.played();
            String at = "power " + power;
            Check.due(at, power >= 30, () -> v.make(Scenes.PASSWORD, Scenes.SALT, Scenes.ROUNDS, bytes));
            Check.due(at + ", isOpen()", power >= 30, v::isOpen);
            Check.due(at + ", open", power >= 30 ? "1" : "throws.NoSuchElementException",
                () -> v.open(Scenes.PASSWORD));
            Check.dueSlot(at + ", slot 0", Arrays.copyOf(file, Math.min(power, 30)), Scenes.UNSAVED.then(make), 0);
        }
        Check.due("the greatest power", true,
            () -> Scenes.UNSAVED.played().make(1, 1, 1, Integer.MAX_VALUE));
    }

    private static void makeWithoutRounds() {
        for (int rounds : NO_ROUNDS) {
            Check.dueRefused("new, rounds " + rounds, ARGUMENT, Scenes.NEW, v -> v.make(1, 1, rounds, Scenes.PLENTY));
            Check.dueRefused("open, rounds " + rounds, ARGUMENT, Scenes.UNSAVED,
                v -> v.make(Scenes.PASSWORD, 1, rounds, Scenes.PLENTY));
        }
        Check.due("rounds 1", true, () -> new CrashVault().make(1, 1, 1, Scenes.PLENTY));
        Check.due("rounds 40", true, () -> new CrashVault().make(1, 1, 40, Scenes.PLENTY));
    }

    private static void makeWithNegativePower() {
        for (int power : new int[] {-1, -30, Integer.MIN_VALUE}) {
            Check.dueRefused("new, power " + power, ARGUMENT, Scenes.NEW, v -> v.make(1, 1, 1, power));
            Check.dueRefused("open, power " + power, ARGUMENT, Scenes.UNSAVED,
                v -> v.make(Scenes.PASSWORD, 1, 40, power));
        }
        Check.due("power 0", false, () -> new CrashVault().make(1, 1, 1, 0));
    }

    private static void openWhateverWasOpen() {
        CrashVault v = Scenes.UNSAVED.played();
        Check.due("what was not saved is lost", 3, () -> v.open(Scenes.PASSWORD));
        Check.due("the vault", 3, v::entries);
        v.spoil(299, 1);
        Check.due("behind the file nothing counts", 3, () -> v.open(Scenes.PASSWORD));
        v.spoil(0, 1);
        Check.due("the other slot", 2, () -> v.open(Scenes.PASSWORD));
        Check.due("the vault of the other slot", "[2, 30]", () -> Check.seen(v));
        v.spoil(0, 1);
        v.spoil(300, 1);
        Check.due("slot 0 alone", 3, () -> v.open(Scenes.PASSWORD));
        v.shut();
        Check.due("while shut", 3, () -> v.open(Scenes.PASSWORD));
        Check.due("isOpen()", true, v::isOpen);
        Forge older = Scenes.file(Integer.MIN_VALUE, Scenes.rows(1, 0));
        older.salt = 1;
        older.rounds = 40;
        Scene two = Scenes.planted(0, Scenes.fileBytes(-2, Scenes.rows(2, 0)))
            .then(Scenes.planted(1, older.file(Scenes.PASSWORD))).then(Scenes.OPENED);
        Check.dueSlot("salt and rounds are those of the newest", Scenes.fileBytes(-1, Scenes.rows(2, 0)),
            two.then(Scenes.SAVED), 1);
    }

    private static void openWithoutAGoodSlot() {
        Check.dueRefused("an empty disk", ELEMENT, Scenes.NEW, v -> v.open(Scenes.PASSWORD));
        Check.dueRefused("another password", ELEMENT, Scenes.UNSAVED, v -> v.open(Scenes.PASSWORD + 1));
        Check.dueRefused("the low half alone", ELEMENT, Scenes.UNSAVED, v -> v.open((int) Scenes.PASSWORD));
        Check.dueRefused("another password, shut", ELEMENT, Scenes.SHUT, v -> v.open(0));
        Scene spoilt = Scenes.UNSAVED.then(v -> {
            v.spoil(20, 1);
            v.spoil(320, 1);
        });
        Check.dueRefused("both are spoilt", ELEMENT, spoilt, v -> v.open(Scenes.PASSWORD));
    }

    private static void shut() {
        CrashVault v = new CrashVault();
        Check.due("new", false, v::shut);
        Scenes.UNSAVED.play(v);
        Check.due("open", true, v::shut);
        Check.due("isOpen()", false, v::isOpen);
        Check.due("again", false, v::shut);
        v.open(Scenes.PASSWORD);
        Check.due("what was not saved is lost", 3, v::entries);
        Check.due("the value that was saved", Scenes.rows(2, 1)[1][1], () -> v.value(2, 0));
        v.save(0);
        Check.due("after power failed", false, v::shut);
        Check.due("the disk stays", Arrays.toString(Scenes.UNSAVED.disk()),
            () -> Arrays.toString(Scenes.UNSAVED.then(CrashVault::shut).disk()));
    }

    private static void isOpen() {
        CrashVault v = new CrashVault();
        Check.due("new", false, v::isOpen);
        v.make(1, 1, 1, 29);
        Check.due("made without power", false, v::isOpen);
        v.make(1, 1, 1, 30);
        Check.due("made", true, v::isOpen);
        v.save(30);
        Check.due("saved", true, v::isOpen);
        v.save(29);
        Check.due("power failed", false, v::isOpen);
        v.open(1);
        Check.due("opened", true, v::isOpen);
        Check.answer(() -> v.open(2));
        Check.due("another was not opened", true, v::isOpen);
        v.shut();
        Check.due("shut", false, v::isOpen);
        Check.answer(() -> v.open(2));
        Check.due("shut, another was not opened", false, v::isOpen);
    }

    private static void lengthFromEmptyToFull() {
        for (int entries = 0; entries <= 8; entries++) {
            for (int olds = 0; olds <= 2; olds++) {
                int bytes = 30 + entries * (17 + 8 * olds);
                String what = entries + " entries, " + olds + " old values";
                Scene scene = Scenes.MADE.then(Scenes.entries(entries, olds));
                Check.due(what, bytes, () -> scene.played().length());
                Check.due(what + ", saved with it", true, () -> scene.played().save(bytes));
                Check.due(what + ", saved with less", false, () -> scene.played().save(bytes - 1));
            }
        }
        CrashVault v = Scenes.UNSAVED.played();
        Check.due("what is not saved counts", 30 + 25 + 33 + 17, v::length);
        v.put(2, -1);
        Check.due("the same value does not count", 105, v::length);
        v.put(2, -2);
        Check.due("a forgotten value does not count", 105, v::length);
    }

    private static void saveAtAnyPower() {
        Scene before = Scenes.MADE.then(Scenes.SAVED).then(Scenes.entries(2, 1));
        int whole = 30 + 2 * 25;
        for (int power = 0; power <= whole + 1; power++) {
            int bytes = power;
            boolean enough = power >= whole;
            CrashVault v = before.played();
            Check.due("power " + power, enough, () -> v.save(bytes));
            Check.due("power " + power + ", isOpen()", enough, v::isOpen);
            Check.due("power " + power + ", open", enough ? 3 : 2, () -> v.open(Scenes.PASSWORD));
            Check.due("power " + power + ", the vault", enough ? 2 : 0, v::entries);
        }
        Check.due("the greatest power", true, () -> before.played().save(Integer.MAX_VALUE));
    }

    private static void saveWithNegativePower() {
        for (int power : new int[] {-1, -30, Integer.MIN_VALUE}) {
            Check.dueRefused("power " + power, ARGUMENT, Scenes.UNSAVED, v -> v.save(power));
        }
        Check.due("power 0", false, () -> Scenes.UNSAVED.played().save(0));
    }

    private static void renewIfSaved() {
        CrashVault v = Scenes.MADE.then(Scenes.SAVED).played();
        Check.dueVoid("renew", "nothing", () -> v.renew(2, 40));
        Check.due("not saved yet", false, () -> v.isGood(1, 2));
        Check.due("all else is as it was", "[2, 30]", () -> Check.seen(v));
        v.save(Scenes.PLENTY);
        Check.due("the slot has the new password", true, () -> v.isGood(0, 2));
        Check.due("the slot has not the old one", false, () -> v.isGood(0, Scenes.PASSWORD));
        Check.due("the slot has the rounds", 40, () -> v.disk(10));
        Check.due("the slot has the salt of before", Scenes.SALT & 0xff, () -> v.disk(6));
        Check.due("the other slot has the old password", true, () -> v.isGood(1, Scenes.PASSWORD));
        v.save(Scenes.PLENTY);
        Check.due("the next save keeps it", true, () -> v.isGood(1, 2));
        Check.due("the next save keeps the rounds", 40, () -> v.disk(310));
        Check.due("the old password opens nothing", "throws.NoSuchElementException", () -> v.open(Scenes.PASSWORD));
        Check.due("the new one opens", 4, () -> v.open(2));
        v.renew(2, 1);
        v.save(Scenes.PLENTY);
        Check.due("other rounds, the same password", 1, () -> v.disk(10));
        Check.due("it can be opened", 5, () -> v.open(2));
        v.renew(7, 3);
        v.renew(8, 4);
        v.save(Scenes.PLENTY);
        Check.due("renewed twice: the later counts", true, () -> v.isGood(1, 8));
        Check.due("renewed twice: its rounds", 4, () -> v.disk(310));
    }

    private static void renewIsLostUnlessSaved() {
        List<Scene> losses = List.of(v -> v.save(29), CrashVault::shut, Scenes.OPENED);
        for (Scene loss : losses) {
            CrashVault v = Scenes.MADE.then(Scenes.SAVED).played();
            v.renew(2, 40);
            loss.play(v);
            Check.due("the new password", "throws.NoSuchElementException", () -> v.open(2));
            Check.due("the old one", 2, () -> v.open(Scenes.PASSWORD));
            v.save(Scenes.PLENTY);
            Check.due("the old one is kept", true, () -> v.isGood(0, Scenes.PASSWORD));
            Check.due("the old rounds are kept", Scenes.ROUNDS, () -> v.disk(10));
        }
    }

    private static void renewWithoutRounds() {
        for (int rounds : NO_ROUNDS) {
            Check.dueRefused("rounds " + rounds, ARGUMENT, Scenes.UNSAVED, v -> v.renew(9, rounds));
        }
        for (int rounds : new int[] {1, 40}) {
            CrashVault v = Scenes.MADE.played();
            Check.dueVoid("rounds " + rounds, "nothing", () -> v.renew(9, rounds));
            v.save(Scenes.PLENTY);
            Check.due("saved with rounds " + rounds, true, () -> v.isGood(1, 9));
        }
    }

    private static void serial() {
        CrashVault v = Scenes.MADE.played();
        Check.due("made", 1, v::serial);
        v.put(1, 1);
        v.renew(2, 2);
        Check.answer(() -> v.save(-1));
        Check.due("changed, and not saved", 1, v::serial);
        v.save(Scenes.PLENTY);
        Check.due("saved", 2, v::serial);
        v.save(Scenes.PLENTY);
        v.save(1);
        v.open(2);
        Check.due("opened", 3, v::serial);
        v.make(1, 1, 1, Scenes.PLENTY);
        Check.due("made again", 1, v::serial);
        for (int serial : new int[] {Integer.MIN_VALUE, -1, 0, Integer.MAX_VALUE}) {
            CrashVault w = Scenes.planted(1, Scenes.fileBytes(serial)).then(Scenes.OPENED).played();
            Check.due("opened with " + serial, serial, w::serial);
            w.save(Scenes.PLENTY);
            Check.due("saved behind " + serial, serial + 1, w::serial);
        }
    }
}
