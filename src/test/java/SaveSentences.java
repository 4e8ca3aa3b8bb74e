import java.util.Arrays;
import java.util.List;

/** Sentences of the terms: what a save does, and what a call that throws does not; and the calls of an object. */
final class SaveSentences {
    private static final String SAVE_WORDS = "TO SAVE, with a POWER of so many bytes: the serial is one more than it "
        + "was; the file of the vault with this serial is written to the slot that is not the newest good one for the "
        + "password that the vault had when it was opened, made, or saved last (slot 0 if neither is good), byte after "
        + "byte, as many as the power suffices for.";
    private static final String THROW_WORDS = "A call that throws changes nothing; where several exceptions that a "
        + "call names fit, it is the one that it names first.";
    private static final String STATE = "IllegalStateException";
    private static final String ARGUMENT = "IllegalArgumentException";
    private static final String INDEX = "IndexOutOfBoundsException";
    private static final String ELEMENT = "NoSuchElementException";

    private SaveSentences() {
    }

    static List<Sentence> all() {
        return List.of(
            new Sentence("terms: save, one serial more", SAVE_WORDS, SaveSentences::oneSerialMore),
            new Sentence("terms: save, not the newest slot", SAVE_WORDS, SaveSentences::notTheNewestSlot),
            new Sentence("terms: save, neither slot is good", SAVE_WORDS, SaveSentences::neitherSlotIsGood),
            new Sentence("terms: save, the password when opened", SAVE_WORDS, SaveSentences::passwordWhenOpened),
            new Sentence("terms: save, the password when made", SAVE_WORDS, SaveSentences::passwordWhenMade),
            new Sentence("terms: save, the password when saved", SAVE_WORDS, SaveSentences::passwordWhenSaved),
            new Sentence("terms: save, byte after byte", SAVE_WORDS, SaveSentences::byteAfterByte),
            new Sentence("terms: save, power for all", "If it suffices for all of them, the vault is saved, and stays "
                + "open.", SaveSentences::powerForAll),
            new Sentence("terms: save, power fails", "If not, the power FAILS: the vault is shut, and what was not "
                + "saved is lost.", SaveSentences::powerFails),
            new Sentence("terms: what throws changes nothing, open", THROW_WORDS,
                SaveSentences::nothingChangesWhileOpen),
            new Sentence("terms: what throws changes nothing, full", THROW_WORDS,
                SaveSentences::nothingChangesWhileFull),
            new Sentence("terms: what throws changes nothing, shut", THROW_WORDS,
                SaveSentences::nothingChangesWhileShut),
            new Sentence("terms: the exception named first", THROW_WORDS, SaveSentences::exceptionNamedFirst),
            new Sentence("what it is: 512 calls", "An object is used for at most 512 calls after it has been made; "
                + "what later calls answer is free.", SaveSentences::theLastOf512Calls));
    }

    private static void oneSerialMore() {
        CrashVault v = Scenes.MADE.played();
        for (int serial = 2; serial <= 5; serial++) {
            v.save(Scenes.PLENTY);
            Check.due("saved", serial, v::serial);
            int slot = (serial + 1) % 2;
            Check.due("on the disk", serial, () -> v.disk(300 * slot + 2));
        }
        v.save(0);
        v.open(Scenes.PASSWORD);
        Check.due("a failed save takes no serial", 5, v::serial);
        v.save(Scenes.PLENTY);
        Check.due("behind a failed save", 6, v::serial);
    }

    /** Which slot a save writes: the serial's lowest byte in both slots. */
    private static void dueSerials(String what, int serial0, int serial1, CrashVault v) {
        Check.due(what + ", slot 0", serial0, () -> v.disk(2));
        Check.due(what + ", slot 1", serial1, () -> v.disk(302));
    }

    private static void notTheNewestSlot() {
        CrashVault v = Scenes.MADE.then(Scenes.SAVED).played();
        dueSerials("slot 0 is good alone: slot 1", 1, 2, v);
        v.save(Scenes.PLENTY);
        dueSerials("slot 1 is the newest: slot 0", 3, 2, v);
        v.save(Scenes.PLENTY);
        dueSerials("slot 0 is the newest: slot 1", 3, 4, v);
        v.spoil(325, 1);
        v.save(Scenes.PLENTY);
        dueSerials("the newest is spoilt: it is written", 3, 5, v);
        v.spoil(25, 1);
        v.save(Scenes.PLENTY);
        dueSerials("the other is spoilt: it is written", 6, 5, v);
        v.spoil(10, 0x80);
        v.save(Scenes.PLENTY);
        dueSerials("slot 1 is good alone: slot 0", 7, 5, v);
    }

    private static void neitherSlotIsGood() {
        for (int serials = 1; serials <= 3; serials++) {
            CrashVault v = Scenes.MADE.played();
            for (int serial = 2; serial <= serials; serial++) {
                v.save(Scenes.PLENTY);
            }
            v.spoil(0, 1);
            v.spoil(300, 1);
            v.save(Scenes.PLENTY);
            dueSerials("after " + serials + " saves", serials + 1, serials == 1 ? 0 : 2, v);
            Check.due("it can be opened after " + serials + " saves", serials + 1, () -> v.open(Scenes.PASSWORD));
        }
    }

    private static void passwordWhenOpened() {
        Scene each = Scenes.planted(0, Scenes.fileBytes(1))
            .then(Scenes.planted(1, Scenes.file(9).file(Scenes.OTHER_PASSWORD)));
        CrashVault v = each.then(Scenes.OPENED).played();
        v.renew(Scenes.OTHER_PASSWORD, 1);
        v.save(Scenes.PLENTY);
        dueSerials("opened from slot 0, renewed", 1, 2, v);
        CrashVault w = each.played();
        w.open(Scenes.OTHER_PASSWORD);
        w.renew(Scenes.PASSWORD, 1);
        w.save(Scenes.PLENTY);
        dueSerials("opened from slot 1, renewed", 10, 9, w);
        CrashVault again = each.then(Scenes.OPENED).played();
        again.open(Scenes.OTHER_PASSWORD);
        again.save(Scenes.PLENTY);
        dueSerials("opened twice: the later counts", 10, 9, again);
    }

    private static void passwordWhenMade() {
        CrashVault v = Scenes.MADE.played();
        v.renew(Scenes.OTHER_PASSWORD, 1);
        v.save(Scenes.PLENTY);
        dueSerials("made, renewed", 1, 2, v);
        CrashVault again = Scenes.MADE.played();
        again.make(Scenes.OTHER_PASSWORD, 1, 1, Scenes.PLENTY);
        again.save(Scenes.PLENTY);
        dueSerials("made twice: the later counts", 1, 2, again);
    }

    private static void passwordWhenSaved() {
        CrashVault v = Scenes.MADE.played();
        v.renew(Scenes.OTHER_PASSWORD, 1);
        v.save(Scenes.PLENTY);
        v.save(Scenes.PLENTY);
        dueSerials("saved with another password, saved again", 3, 2, v);
        v.renew(Scenes.PASSWORD, 1);
        v.save(Scenes.PLENTY);
        dueSerials("renewed twice", 3, 4, v);
        v.save(Scenes.PLENTY);
        dueSerials("renewed twice, saved again", 5, 4, v);
    }

    private static void byteAfterByte() {
        byte[] before = Scenes.fileBytes(2);
        byte[] file = Scenes.fileBytes(4, Scenes.rows(8, 2));
        Scene full = Scenes.MADE.then(Scenes.SAVED).then(Scenes.SAVED).then(Scenes.entries(8, 2));
        for (int power : new int[] {0, 1, 2, 13, 21, 22, 29, 30, 31, 286, 293, 294, 295, Integer.MAX_VALUE}) {
            byte[] due = Arrays.copyOf(before, 300);
            System.arraycopy(file, 0, due, 0, Math.min(power, file.length));
            Check.dueSlot("power " + power, due, full.then(v -> v.save(power)), 1);
            Check.dueSlot("power " + power + ", the other slot", Scenes.fileBytes(3), full.then(v -> v.save(power)), 0);
        }
        Scene shorter = Scenes.FULL.then(Scenes.SAVED).then(Scenes.SAVED).then(v -> v.remove(8)).then(Scenes.SAVED);
        byte[] due = Scenes.fileBytes(2, Scenes.rows(8, 2));
        System.arraycopy(Scenes.fileBytes(4, Scenes.rows(7, 2)), 0, due, 0, 261);
        Check.dueSlot("what is behind a shorter file stays", due, shorter, 1);
    }

    private static void powerForAll() {
        int[] more = {0, 1, 300, Integer.MAX_VALUE - 294};
        for (int entries = 0; entries <= 8; entries += 4) {
            for (int rest : more) {
                int power = 30 + 33 * entries + rest;
                CrashVault v = Scenes.MADE.then(Scenes.entries(entries, 2)).played();
                int there = entries;
                Check.due("power " + power, true, () -> v.save(power));
                Check.due("stays open", true, v::isOpen);
                Check.due("is as it was", there, v::entries);
                Check.due("is saved", 2, () -> v.open(Scenes.PASSWORD));
                Check.due("is saved as it was", there, v::entries);
            }
        }
    }

    private static void powerFails() {
        for (int power : new int[] {0, 1, 29, 30, 293}) {
            CrashVault v = Scenes.FULL.played();
            v.renew(Scenes.OTHER_PASSWORD, 40);
            Check.due("power " + power, false, () -> v.save(power));
            Check.due("is shut", false, v::isOpen);
            Check.due("entries are not to be seen", "throws.IllegalStateException", v::entries);
            Check.due("the other password is lost", "throws.NoSuchElementException",
                () -> v.open(Scenes.OTHER_PASSWORD));
            Check.due("what was saved is there", 1, () -> v.open(Scenes.PASSWORD));
            Check.due("the entries are lost", 0, v::entries);
            v.save(Scenes.PLENTY);
            Check.due("the other rounds are lost", Scenes.ROUNDS, () -> v.disk(310));
        }
    }

    private static void nothingChangesWhileOpen() {
        dueRefused("make, rounds 0", ARGUMENT, v -> v.make(1, 1, 0, 30));
        dueRefused("make, rounds 41", ARGUMENT, v -> v.make(1, 1, 41, 30));
        dueRefused("make, power -1", ARGUMENT, v -> v.make(1, 1, 1, -1));
        dueRefused("open", ELEMENT, v -> v.open(1));
        dueRefused("open with the renewed password", ELEMENT, v -> v.open(Scenes.OTHER_PASSWORD));
        dueRefused("save", ARGUMENT, v -> v.save(-1));
        dueRefused("renew, rounds 0", ARGUMENT, v -> v.renew(1, 0));
        dueRefused("renew, rounds 41", ARGUMENT, v -> v.renew(1, 41));
        dueRefused("put", ARGUMENT, v -> v.put(0, 1));
        dueRefused("name -1", INDEX, v -> v.name(-1));
        dueRefused("name behind the last", INDEX, v -> v.name(3));
        dueRefused("value, back -1", INDEX, v -> v.value(1, -1));
        dueRefused("value, back 3", INDEX, v -> v.value(1, 3));
        dueRefused("value, no such name", ELEMENT, v -> v.value(99, 0));
        dueRefused("value, no such old value", ELEMENT, v -> v.value(1, 2));
        dueRefused("disk -1", INDEX, v -> v.disk(-1));
        dueRefused("disk 600", INDEX, v -> v.disk(600));
        dueRefused("spoil -1", INDEX, v -> v.spoil(-1, 255));
        dueRefused("spoil 600", INDEX, v -> v.spoil(600, 255));
        dueRefused("isGood -1", INDEX, v -> v.isGood(-1, 1));
        dueRefused("isGood 2", INDEX, v -> v.isGood(2, 1));
    }

    private static void dueRefused(String what, String exception, Scene call) {
        Check.dueRefused(what, exception, Scenes.UNSAVED, call);
    }

    private static void nothingChangesWhileFull() {
        for (long name : new long[] {Long.MIN_VALUE, -1, 9, Long.MAX_VALUE}) {
            Check.dueRefused("put " + name, "UnsupportedOperationException", Scenes.FULL, v -> v.put(name, 1));
        }
        Check.dueRefused("put 0", ARGUMENT, Scenes.FULL, v -> v.put(0, 1));
        Check.dueRefused("name 8", INDEX, Scenes.FULL, v -> v.name(8));
    }

    private static void nothingChangesWhileShut() {
        for (Scene shut : List.of(Scenes.NEW, Scenes.SHUT, Scenes.FAILED)) {
            Check.dueRefused("make", ARGUMENT, shut, v -> v.make(1, 1, 0, 30));
            Check.dueRefused("open", ELEMENT, shut, v -> v.open(1));
            Check.dueRefused("length", STATE, shut, CrashVault::length);
            Check.dueRefused("save", STATE, shut, v -> v.save(Scenes.PLENTY));
            Check.dueRefused("renew", STATE, shut, v -> v.renew(1, 1));
            Check.dueRefused("serial", STATE, shut, CrashVault::serial);
            Check.dueRefused("put", STATE, shut, v -> v.put(1, 1));
            Check.dueRefused("remove", STATE, shut, v -> v.remove(1));
            Check.dueRefused("entries", STATE, shut, CrashVault::entries);
            Check.dueRefused("name", STATE, shut, v -> v.name(0));
            Check.dueRefused("value", STATE, shut, v -> v.value(1, 0));
            Check.dueRefused("disk", INDEX, shut, v -> v.disk(600));
            Check.dueRefused("spoil", INDEX, shut, v -> v.spoil(600, 1));
            Check.dueRefused("isGood", INDEX, shut, v -> v.isGood(2, 1));
        }
    }

    private static void exceptionNamedFirst() {
        for (Scene shut : List.of(Scenes.NEW, Scenes.SHUT, Scenes.FULL.then(CrashVault::shut), Scenes.FAILED)) {
            dueThrows("shut: save, power -1", STATE, shut, v -> v.save(-1));
            dueThrows("shut: renew, rounds 0", STATE, shut, v -> v.renew(1, 0));
            dueThrows("shut: renew, rounds 41", STATE, shut, v -> v.renew(1, 41));
            dueThrows("shut: put, name 0", STATE, shut, v -> v.put(0, 1));
            dueThrows("shut: put, a ninth name", STATE, shut, v -> v.put(9, 1));
            dueThrows("shut: name -1", STATE, shut, v -> v.name(-1));
            dueThrows("shut: name 8", STATE, shut, v -> v.name(8));
            dueThrows("shut: value, back 3", STATE, shut, v -> v.value(1, 3));
            dueThrows("shut: value, no such name", STATE, shut, v -> v.value(99, 0));
            dueThrows("shut: value, no such name, back -1", STATE, shut, v -> v.value(99, -1));
        }
        dueThrows("full: put, name 0", ARGUMENT, Scenes.FULL, v -> v.put(0, 1));
        dueThrows("value, no such name, back 3", INDEX, Scenes.FULL, v -> v.value(99, 3));
        dueThrows("value, no such name, back -1", INDEX, Scenes.MADE, v -> v.value(99, -1));
        dueThrows("make, all wrong", ARGUMENT, Scenes.MADE, v -> v.make(1, 1, 0, -1));
    }

    private static void dueThrows(String what, String exception, Scene scene, Scene call) {
        CrashVault v = scene.played();
        Check.dueVoid(what, "throws." + exception, () -> call.play(v));
    }

    private static void theLastOf512Calls() {
        CrashVault v = Scenes.MADE.played();
        for (int call = 2; call < 512; call++) {
            Check.due("call " + call, true, () -> v.save(Scenes.PLENTY));
        }
        Check.due("call 512", 511, v::serial);
    }
}
