import java.util.Arrays;

/** Each promise for itself: ordinary inputs, the edges that the document names, wrong inputs. */
public final class PromisesTest {
    private static final int PLENTY = 1000;

    private PromisesTest() {
    }

    public static void main(String[] args) {
        promise1NewObject();
        promise2Make();
        promise2MakeWithoutPower();
        promise3Open();
        promise4Shut();
        promise5IsOpen();
        promise6Length();
        promise7Save();
        promise7SaveChoosesTheSlot();
        promise8Renew();
        promise8RenewIsLostUnlessSaved();
        promise9Serial();
        promise10Put();
        promise11Remove();
        promise12Entries();
        promise13Name();
        promise14Value();
        promise15Disk();
        promise16Spoil();
        promise17IsGood();
        Check.end();
    }

    private static CrashVault made(long password) {
        CrashVault v = new CrashVault();
        v.make(password, 11, 2, PLENTY);
        return v;
    }

    private static void promise1NewObject() {
        String p = "promise 1: ";
        CrashVault low = new CrashVault();
        Check.due(p + "isOpen()", false, low::isOpen);
        Check.due(p + "slot 0 of the disk", Arrays.toString(new byte[300]),
            () -> Arrays.toString(Check.diskBytes(low, 0, 300)));
        CrashVault high = new CrashVault();
        Check.due(p + "slot 1 of the disk", Arrays.toString(new byte[300]),
            () -> Arrays.toString(Check.diskBytes(high, 300, 300)));
        for (long password : new long[] {0, 1, -1, Long.MIN_VALUE}) {
            Check.due(p + "open", "throws.NoSuchElementException", () -> high.open(password));
        }
    }

    private static void promise2Make() {
        String p = "promise 2: ";
        CrashVault v = new CrashVault();
        for (int rounds : new int[] {0, 41, -1, 256, Integer.MIN_VALUE, Integer.MAX_VALUE}) {
            Check.dueThrows(p + "rounds " + rounds, "IllegalArgumentException", v,
                () -> v.make(1, 1, rounds, PLENTY));
        }
        Check.dueThrows(p + "power -1", "IllegalArgumentException", v, () -> v.make(1, 1, 1, -1));
        Check.dueThrows(p + "least power", "IllegalArgumentException", v,
            () -> v.make(1, 1, 40, Integer.MIN_VALUE));
        Check.due(p + "disk(0) after throws", 0, () -> v.disk(0));
        Check.due(p + "one round", true, () -> v.make(1, 1, 1, 30));
        Check.due(p + "forty rounds", true, () -> v.make(1, 1, 40, Integer.MAX_VALUE));
        v.put(5, 6);
        v.save(PLENTY);
        Check.due(p + "slot 1 is written", 0x56, () -> v.disk(300));
        v.put(7, 8);
        Check.dueThrows(p + "while open, wrong", "IllegalArgumentException", v, () -> v.make(2, 2, 0, PLENTY));
        Check.due(p + "disk(300) after a throw", 0x56, () -> v.disk(300));
        Check.due(p + "while open", true, () -> v.make(-9, Integer.MIN_VALUE, 3, PLENTY));
        Check.due(p + "the new vault", "[1, 30]", () -> Check.seen(v));
        Forge due = new Forge(Forge.contentOf());
        due.salt = Integer.MIN_VALUE;
        due.rounds = 3;
        byte[] slot = Arrays.copyOf(due.file(-9), 200);
        Check.due(p + "slot 0", Arrays.toString(slot), () -> Arrays.toString(Check.diskBytes(v, 0, 200)));
        Check.due(p + "slot 1 is 0 again", Arrays.toString(new byte[60]),
            () -> Arrays.toString(Check.diskBytes(v, 300, 60)));
    }

    private static void promise2MakeWithoutPower() {
        String p = "promise 2: ";
        byte[] file = new Forge(Forge.contentOf()).file(4);
        for (int power = 0; power <= 31; power++) {
            int bytes = power;
            CrashVault v = made(4);
            v.put(1, 1);
            v.save(PLENTY);
            Check.due(p + "power " + power, power >= 30, () -> v.make(4, 0, 1, bytes));
            Check.due(p + "isOpen() after power " + power, power >= 30, v::isOpen);
            byte[] slot = Arrays.copyOf(Arrays.copyOf(file, Math.min(power, 30)), 60);
            Check.due(p + "slot 0 after power " + power, Arrays.toString(slot),
                () -> Arrays.toString(Check.diskBytes(v, 0, 60)));
            Check.due(p + "slot 1 after power " + power, Arrays.toString(new byte[60]),
                () -> Arrays.toString(Check.diskBytes(v, 300, 60)));
            Check.due(p + "open after power " + power, power >= 30 ? "1" : "throws.NoSuchElementException",
                () -> v.open(4));
        }
    }

    private static void promise3Open() {
        String p = "promise 3: ";
        CrashVault v = new CrashVault();
        Check.dueThrows(p + "empty disk", "NoSuchElementException", v, () -> v.open(0));
        v.make(3, 1, 2, PLENTY);
        v.put(8, 1);
        v.put(8, 2);
        v.save(PLENTY);
        v.put(9, 9);
        Check.dueThrows(p + "wrong password", "NoSuchElementException", v, () -> v.open(4));
        Check.due(p + "newest", 2, () -> v.open(3));
        Check.due(p + "what was not saved is lost", "[2, 55, 8=[2, 1]]", () -> Check.seen(v));
        v.spoil(300, 1);
        Check.due(p + "the other slot", 1, () -> v.open(3));
        Check.due(p + "the vault of the other slot", "[1, 30]", () -> Check.seen(v));
        v.spoil(0, 1);
        Check.dueThrows(p + "no good slot", "NoSuchElementException", v, () -> v.open(3));
        v.spoil(300, 1);
        Check.due(p + "slot 1 alone", 2, () -> v.open(3));
        v.shut();
        Check.dueThrows(p + "wrong password, shut", "NoSuchElementException", v, () -> v.open(1L << 32 | 3));
        Check.due(p + "after shut", 2, () -> v.open(3));
        Check.due(p + "isOpen()", true, v::isOpen);
    }

    private static void promise4Shut() {
        String p = "promise 4: ";
        CrashVault v = new CrashVault();
        Check.due(p + "new", false, v::shut);
        v.make(1, 1, 1, PLENTY);
        v.put(1, 1);
        Check.due(p + "open", true, v::shut);
        Check.due(p + "isOpen()", false, v::isOpen);
        Check.due(p + "again", false, v::shut);
        v.open(1);
        Check.due(p + "what was not saved is lost", "[1, 30]", () -> Check.seen(v));
    }

    private static void promise5IsOpen() {
        String p = "promise 5: ";
        CrashVault v = new CrashVault();
        Check.due(p + "new", false, v::isOpen);
        v.make(1, 1, 1, PLENTY);
        Check.due(p + "made", true, v::isOpen);
        v.save(PLENTY);
        Check.due(p + "saved", true, v::isOpen);
        v.save(29);
        Check.due(p + "power failed", false, v::isOpen);
        v.open(1);
        Check.due(p + "opened", true, v::isOpen);
        v.shut();
        Check.due(p + "shut", false, v::isOpen);
    }

    private static void promise6Length() {
        String p = "promise 6: ";
        CrashVault v = new CrashVault();
        Check.dueThrows(p + "new", "IllegalStateException", v, v::length);
        v.make(1, 1, 1, PLENTY);
        Check.due(p + "no entry", 30, v::length);
        v.put(1, 1);
        Check.due(p + "an entry", 47, v::length);
        v.put(1, 2);
        Check.due(p + "an old value", 55, v::length);
        v.put(1, 3);
        v.put(1, 4);
        Check.due(p + "two old values", 63, v::length);
        for (int name = 2; name <= 8; name++) {
            v.put(name, 1);
            v.put(name, 2);
            v.put(name, 3);
        }
        Check.due(p + "the longest", 294, v::length);
        Check.due(p + "a save of so many bytes", true, () -> v.save(294));
        Check.due(p + "one byte less", false, () -> v.save(293));
        Check.dueThrows(p + "shut", "IllegalStateException", v, v::length);
    }

    private static void promise7Save() {
        String p = "promise 7: ";
        CrashVault v = new CrashVault();
        Check.dueThrows(p + "shut", "IllegalStateException", v, () -> v.save(PLENTY));
        Check.dueThrows(p + "shut, and power -1", "IllegalStateException", v, () -> v.save(-1));
        v.make(6, 7, 3, PLENTY);
        v.put(-4, 5);
        v.put(-4, 6);
        v.put(3, Long.MIN_VALUE);
        Check.dueThrows(p + "power -1", "IllegalArgumentException", v, () -> v.save(-1));
        Check.dueThrows(p + "least power", "IllegalArgumentException", v, () -> v.save(Integer.MIN_VALUE));
        Check.due(p + "save", true, () -> v.save(Integer.MAX_VALUE));
        Forge due = new Forge(Forge.contentOf(new long[] {-4, 6, 5}, new long[] {3, Long.MIN_VALUE}));
        due.serial = 2;
        due.salt = 7;
        due.rounds = 3;
        byte[] slot = Arrays.copyOf(due.file(6), 120);
        Check.due(p + "slot 1", Arrays.toString(slot), () -> Arrays.toString(Check.diskBytes(v, 300, 120)));
        Check.due(p + "stays open", "[2, 72, -4=[6, 5], 3=[" + Long.MIN_VALUE + "]]", () -> Check.seen(v));
        Check.due(p + "no power", false, () -> v.save(0));
        Check.due(p + "is shut then", false, v::isOpen);
        Check.due(p + "opened again", 2, () -> v.open(6));
        v.remove(3);
        v.remove(-4);
        v.save(PLENTY);
        v.save(PLENTY);
        due.content = Forge.contentOf();
        due.declared = 1;
        due.serial = 4;
        System.arraycopy(due.file(6), 0, slot, 0, 30);
        Check.due(p + "what is behind a shorter file stays", Arrays.toString(slot),
            () -> Arrays.toString(Check.diskBytes(v, 300, 120)));
    }

    private static void promise7SaveChoosesTheSlot() {
        String p = "promise 7: ";
        CrashVault v = made(5);
        v.save(PLENTY);
        v.save(PLENTY);
        Check.due(p + "slot 0 is the newest", 3, () -> v.disk(2));
        Check.due(p + "slot 1 is the other", 2, () -> v.disk(302));
        v.spoil(25, 1);
        v.save(PLENTY);
        Check.due(p + "the newest was spoilt: it is written", 4, () -> v.disk(2));
        Check.due(p + "the other one is spared", 2, () -> v.disk(302));
        v.spoil(325, 1);
        v.save(PLENTY);
        Check.due(p + "the other was spoilt: it is written", 5, () -> v.disk(302));
        v.spoil(1, 1);
        v.spoil(301, 1);
        v.save(PLENTY);
        Check.due(p + "none is good: slot 0", 6, () -> v.disk(2));
        Check.due(p + "none is good: not slot 1", 5, () -> v.disk(302));
        Check.due(p + "it can be opened", 6, () -> v.open(5));
    }

    private static void promise8Renew() {
        String p = "promise 8: ";
        CrashVault v = new CrashVault();
        Check.dueThrows(p + "shut", "IllegalStateException", v, () -> renewed(v, 1, 1));
        Check.dueThrows(p + "shut, and rounds 0", "IllegalStateException", v, () -> renewed(v, 1, 0));
        v.make(1, -5, 2, PLENTY);
        v.put(1, 10);
        v.save(PLENTY);
        for (int rounds : new int[] {0, 41, -1, 257, Integer.MIN_VALUE}) {
            Check.dueThrows(p + "rounds " + rounds, "IllegalArgumentException", v, () -> renewed(v, 9, rounds));
        }
        Check.due(p + "renew", "nothing", () -> renewed(v, 2, 40));
        Check.due(p + "not saved yet", false, () -> v.isGood(1, 2));
        Check.due(p + "all else is as it was", "[2, 47, 1=[10]]", () -> Check.seen(v));
        v.save(PLENTY);
        Check.due(p + "slot 0 has the new password", true, () -> v.isGood(0, 2));
        Check.due(p + "slot 0 has not the old one", false, () -> v.isGood(0, 1));
        Check.due(p + "slot 0 has the rounds", 40, () -> v.disk(10));
        Check.due(p + "slot 0 has the salt of before", 0xfb, () -> v.disk(6));
        Check.due(p + "slot 1 still has the old password", true, () -> v.isGood(1, 1));
        v.save(PLENTY);
        Check.due(p + "slot 1 has the new password then", true, () -> v.isGood(1, 2));
        Check.due(p + "the old password opens nothing", "throws.NoSuchElementException", () -> v.open(1));
        Check.due(p + "the new one opens", 4, () -> v.open(2));
        v.save(PLENTY);
        Check.due(p + "the rounds stay", 40, () -> v.disk(10));
        v.renew(2, 1);
        v.save(PLENTY);
        Check.due(p + "other rounds, the same password", 1, () -> v.disk(310));
        Check.due(p + "slot 0 keeps its rounds, and is good", true, () -> v.isGood(0, 2));
    }

    private static String renewed(CrashVault v, long password, int rounds) {
        v.renew(password, rounds);
        return "nothing";
    }

    private static void promise8RenewIsLostUnlessSaved() {
        String p = "promise 8: ";
        CrashVault v = made(1);
        v.save(PLENTY);
        v.renew(2, 3);
        v.save(29);
        Check.due(p + "power failed: the new password", "throws.NoSuchElementException", () -> v.open(2));
        Check.due(p + "power failed: the old one", 2, () -> v.open(1));
        v.renew(2, 3);
        v.shut();
        v.open(1);
        v.save(PLENTY);
        Check.due(p + "shut: the old password is kept", true, () -> v.isGood(0, 1));
        Check.due(p + "shut: the old rounds are kept", 2, () -> v.disk(10));
        v.renew(7, 3);
        v.renew(8, 4);
        v.save(PLENTY);
        Check.due(p + "renewed twice: the slot spared is that of the saved password", true, () -> v.isGood(0, 1));
        Check.due(p + "renewed twice: the later counts", true, () -> v.isGood(1, 8));
        v.renew(1, 1);
        v.save(PLENTY);
        Check.due(p + "back again: slot 1 is spared", true, () -> v.isGood(1, 8));
        Check.due(p + "back again: slot 0", 1, () -> v.disk(10));
        Check.due(p + "back again: open", 5, () -> v.open(1));
    }

    private static void promise9Serial() {
        String p = "promise 9: ";
        CrashVault v = new CrashVault();
        Check.dueThrows(p + "new", "IllegalStateException", v, v::serial);
        v.make(1, 1, 1, PLENTY);
        Check.due(p + "made", 1, v::serial);
        v.put(1, 1);
        v.renew(2, 2);
        Check.due(p + "changed", 1, v::serial);
        v.save(PLENTY);
        Check.due(p + "saved", 2, v::serial);
        v.save(PLENTY);
        v.save(1);
        Check.dueThrows(p + "power failed", "IllegalStateException", v, v::serial);
        v.open(2);
        Check.due(p + "opened", 3, v::serial);
        v.make(1, 1, 1, PLENTY);
        Check.due(p + "made again", 1, v::serial);
        CrashVault last = new CrashVault();
        Forge greatest = new Forge(Forge.contentOf());
        greatest.serial = Integer.MAX_VALUE;
        Forge.plant(last, 0, greatest.file(1));
        Check.due(p + "the greatest", Integer.MAX_VALUE, () -> last.open(1));
        last.save(PLENTY);
        Check.due(p + "one more than the greatest", Integer.MIN_VALUE, last::serial);
        Check.due(p + "the greatest is still the newest", Integer.MAX_VALUE, () -> last.open(1));
    }

    private static void promise10Put() {
        String p = "promise 10: ";
        CrashVault v = new CrashVault();
        Check.dueThrows(p + "shut", "IllegalStateException", v, () -> v.put(1, 1));
        Check.dueThrows(p + "shut, name 0", "IllegalStateException", v, () -> v.put(0, 1));
        v.make(1, 1, 1, PLENTY);
        Check.dueThrows(p + "name 0", "IllegalArgumentException", v, () -> v.put(0, 1));
        Check.due(p + "new", true, () -> v.put(5, 50));
        Check.due(p + "the same value", false, () -> v.put(5, 50));
        Check.due(p + "no old value", "[50]", () -> Check.history(v, 5));
        Check.due(p + "another value", false, () -> v.put(5, 51));
        Check.due(p + "an old value", "[51, 50]", () -> Check.history(v, 5));
        v.put(5, 50);
        Check.due(p + "back to the first", "[50, 51, 50]", () -> Check.history(v, 5));
        v.put(5, 50);
        Check.due(p + "the same again", "[50, 51, 50]", () -> Check.history(v, 5));
        v.put(5, 0);
        Check.due(p + "the third latest is forgotten", "[0, 50, 51]", () -> Check.history(v, 5));
        long[] names = {Long.MIN_VALUE, -1, 1, 1L << 32, Long.MAX_VALUE, -1L << 32, 4};
        for (long name : names) {
            Check.due(p + "put " + name, true, () -> v.put(name, -name));
        }
        Check.dueThrows(p + "a ninth", "UnsupportedOperationException", v, () -> v.put(6, 1));
        Check.dueThrows(p + "name 0, when full", "IllegalArgumentException", v, () -> v.put(0, 1));
        Check.due(p + "one of the eight", false, () -> v.put(4, 1));
        Check.due(p + "its values", "[1, -4]", () -> Check.history(v, 4));
        Check.due(p + "the others are as they were", "[0, 50, 51]", () -> Check.history(v, 5));
    }

    private static void promise11Remove() {
        String p = "promise 11: ";
        CrashVault v = new CrashVault();
        Check.dueThrows(p + "shut", "IllegalStateException", v, () -> v.remove(1));
        v.make(1, 1, 1, PLENTY);
        Check.due(p + "none", false, () -> v.remove(1));
        Check.due(p + "name 0", false, () -> v.remove(0));
        for (int name = 1; name <= 8; name++) {
            v.put(name, name);
            v.put(name, 10 * name);
        }
        Check.due(p + "in the middle", true, () -> v.remove(4));
        Check.due(p + "again", false, () -> v.remove(4));
        Check.due(p + "the first", true, () -> v.remove(1));
        Check.due(p + "the last", true, () -> v.remove(8));
        Check.due(p + "the rest", "[1, 155, 2=[20, 2], 3=[30, 3], 5=[50, 5], 6=[60, 6], 7=[70, 7]]",
            () -> Check.seen(v));
        Check.due(p + "put again: new", true, () -> v.put(4, 1));
        Check.due(p + "put again: without its old values", "[1]", () -> Check.history(v, 4));
        for (int name = 2; name <= 7; name++) {
            v.remove(name);
        }
        Check.due(p + "all", "[1, 30]", () -> Check.seen(v));
        Check.due(p + "none again", false, () -> v.remove(7));
    }

    private static void promise12Entries() {
        String p = "promise 12: ";
        CrashVault v = new CrashVault();
        Check.dueThrows(p + "shut", "IllegalStateException", v, v::entries);
        v.make(1, 1, 1, PLENTY);
        Check.due(p + "none", 0, v::entries);
        for (int name = 1; name <= 8; name++) {
            v.put(name, 1);
            Check.due(p + "so many", name, v::entries);
        }
        v.put(8, 2);
        Check.due(p + "after another value", 8, v::entries);
        v.remove(1);
        Check.due(p + "after a remove", 7, v::entries);
        v.make(1, 1, 1, PLENTY);
        Check.due(p + "made again", 0, v::entries);
    }

    private static void promise13Name() {
        String p = "promise 13: ";
        CrashVault v = new CrashVault();
        Check.dueThrows(p + "shut", "IllegalStateException", v, () -> v.name(0));
        Check.dueThrows(p + "shut, -1", "IllegalStateException", v, () -> v.name(-1));
        v.make(1, 1, 1, PLENTY);
        Check.dueThrows(p + "no entry", "IndexOutOfBoundsException", v, () -> v.name(0));
        long[] names = {7, -7, Long.MAX_VALUE, Long.MIN_VALUE, 1L << 33, 6, -1, 1};
        for (long name : names) {
            v.put(name, 1);
        }
        long[] inOrder = names.clone();
        Arrays.sort(inOrder);
        for (int i = 0; i < inOrder.length; i++) {
            int at = i;
            Check.due(p + "name(" + i + ")", inOrder[i], () -> v.name(at));
        }
        for (int i : new int[] {-1, 8, Integer.MIN_VALUE, Integer.MAX_VALUE}) {
            Check.dueThrows(p + "name(" + i + ")", "IndexOutOfBoundsException", v, () -> v.name(i));
        }
        v.remove(Long.MAX_VALUE);
        Check.dueThrows(p + "behind the last", "IndexOutOfBoundsException", v, () -> v.name(7));
    }

    private static void promise14Value() {
        String p = "promise 14: ";
        CrashVault v = new CrashVault();
        Check.dueThrows(p + "shut", "IllegalStateException", v, () -> v.value(1, 0));
        Check.dueThrows(p + "shut, back 3", "IllegalStateException", v, () -> v.value(1, 3));
        v.make(1, 1, 1, PLENTY);
        Check.dueThrows(p + "no such name", "NoSuchElementException", v, () -> v.value(1, 0));
        Check.dueThrows(p + "name 0", "NoSuchElementException", v, () -> v.value(0, 0));
        for (int back : new int[] {-1, 3, Integer.MIN_VALUE, Integer.MAX_VALUE}) {
            Check.dueThrows(p + "no such name, back " + back, "IndexOutOfBoundsException", v,
                () -> v.value(1, back));
        }
        v.put(1, Long.MIN_VALUE);
        Check.due(p + "the value", Long.MIN_VALUE, () -> v.value(1, 0));
        Check.dueThrows(p + "no old value", "NoSuchElementException", v, () -> v.value(1, 1));
        v.put(1, -1);
        Check.due(p + "the value", -1, () -> v.value(1, 0));
        Check.due(p + "the latest", Long.MIN_VALUE, () -> v.value(1, 1));
        Check.dueThrows(p + "none before", "NoSuchElementException", v, () -> v.value(1, 2));
        v.put(1, Long.MAX_VALUE);
        Check.due(p + "the one before", Long.MIN_VALUE, () -> v.value(1, 2));
        Check.dueThrows(p + "back 3", "IndexOutOfBoundsException", v, () -> v.value(1, 3));
        v.put(-1, 4);
        v.save(PLENTY);
        v.put(1, 0);
        v.open(1);
        Check.due(p + "opened", "[" + Long.MAX_VALUE + ", -1, " + Long.MIN_VALUE + "]",
            () -> Check.history(v, 1));
        Check.due(p + "opened, another name", "[4]", () -> Check.history(v, -1));
    }

    private static void promise15Disk() {
        String p = "promise 15: ";
        CrashVault v = new CrashVault();
        for (int i : new int[] {-1, 600, Integer.MIN_VALUE, Integer.MAX_VALUE}) {
            Check.dueThrows(p + "disk(" + i + ")", "IndexOutOfBoundsException", v, () -> v.disk(i));
        }
        for (int i : new int[] {0, 299, 300, 599}) {
            v.spoil(i, 0xff);
            Check.due(p + "the greatest, at " + i, 255, () -> v.disk(i));
        }
        Check.due(p + "its neighbour", 0, () -> v.disk(1));
        v.make(1, 1, 1, PLENTY);
        Check.due(p + "while open", 0x56, () -> v.disk(0));
        Check.due(p + "all 0 again", 0, () -> v.disk(599));
    }

    private static void promise16Spoil() {
        String p = "promise 16: ";
        CrashVault v = new CrashVault();
        for (int i : new int[] {-1, 600, Integer.MIN_VALUE, Integer.MAX_VALUE}) {
            Check.dueThrows(p + "spoil " + i, "IndexOutOfBoundsException", v, () -> {
                v.spoil(i, 1);
                return "nothing";
            });
        }
        Check.dueVoid(p + "spoil(599, 0x1234)", "nothing", () -> v.spoil(599, 0x1234));
        Check.due(p + "the lowest 8 bits", 0x34, () -> v.disk(599));
        v.spoil(599, -1);
        Check.due(p + "xor", 0xcb, () -> v.disk(599));
        v.spoil(599, 0x100);
        Check.due(p + "no bit of the lowest 8", 0xcb, () -> v.disk(599));
        v.spoil(0, 0x80);
        Check.due(p + "the first byte", 0x80, () -> v.disk(0));
        Check.due(p + "the next byte", 0, () -> v.disk(1));
        v.make(1, 1, 1, PLENTY);
        v.put(1, 2);
        v.spoil(0, 1);
        Check.due(p + "the open vault is as it was", "[1, 47, 1=[2]]", () -> Check.seen(v));
        Check.due(p + "the slot is not", false, () -> v.isGood(0, 1));
        v.spoil(0, 1);
        Check.due(p + "mended", true, () -> v.isGood(0, 1));
    }

    private static void promise17IsGood() {
        String p = "promise 17: ";
        CrashVault v = new CrashVault();
        for (int slot : new int[] {-1, 2, Integer.MIN_VALUE, Integer.MAX_VALUE}) {
            Check.dueThrows(p + "slot " + slot, "IndexOutOfBoundsException", v, () -> v.isGood(slot, 1));
        }
        Check.due(p + "empty slot 0", false, () -> v.isGood(0, 0));
        Check.due(p + "empty slot 1", false, () -> v.isGood(1, 0));
        v.make(1, 1, 1, PLENTY);
        v.put(3, 4);
        Check.due(p + "slot 0", true, () -> v.isGood(0, 1));
        Check.due(p + "slot 1", false, () -> v.isGood(1, 1));
        v.save(PLENTY);
        Check.due(p + "slot 1, saved", true, () -> v.isGood(1, 1));
        for (int bit = 0; bit < 64; bit++) {
            long password = 1 ^ 1L << bit;
            Check.due(p + "another password", false, () -> v.isGood(1, password));
        }
        Check.due(p + "the open vault is as it was", "[2, 47, 3=[4]]", () -> Check.seen(v));
        v.shut();
        Check.due(p + "shut", true, () -> v.isGood(1, 1));
        Check.due(p + "is still shut", false, v::isOpen);
    }
}
