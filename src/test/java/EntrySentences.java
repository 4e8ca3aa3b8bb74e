import java.util.Arrays;
import java.util.List;

/** Sentences of the promises 10 to 14: the entries of a vault. */
final class EntrySentences {
    private static final String PUT_WORDS = "The entry of a name gets a value; if it had another one, that becomes its "
        + "latest old value, and the third latest is forgotten.";
    private static final String SHUT_WORDS = "IllegalStateException when the vault is shut;";
    private static final String LAST_SHUT_WORDS = "IllegalStateException when the vault is shut.";

    private EntrySentences() {
    }

    static List<Sentence> all() {
        return List.of(
            new Sentence("promise 10: put", PUT_WORDS, EntrySentences::putOtherValues),
            new Sentence("promise 10: the same value", PUT_WORDS, EntrySentences::putTheSameValue),
            new Sentence("promise 10: the third latest", PUT_WORDS, EntrySentences::thirdLatestIsForgotten),
            new Sentence("promise 10: new", "True if the name is new.", EntrySentences::trueIfNew),
            new Sentence("promise 10: shut", SHUT_WORDS,
                () -> VaultSentences.dueRefusedWhileShut(v -> v.put(1, 1))),
            new Sentence("promise 10: name 0", "IllegalArgumentException when name is 0;", EntrySentences::putNameZero),
            new Sentence("promise 10: full", "UnsupportedOperationException when it is new and there are eight.",
                EntrySentences::putWhenThereAreEight),
            new Sentence("promise 11: remove", "The entry of a name goes: whether there was one.",
                EntrySentences::remove),
            new Sentence("promise 11: removed old values", "The entry of a name goes: whether there was one.",
                EntrySentences::oldValuesGoToo),
            new Sentence("promise 11: shut", LAST_SHUT_WORDS,
                () -> VaultSentences.dueRefusedWhileShut(v -> v.remove(1))),
            new Sentence("promise 12: entries", "How many entries there are.", EntrySentences::entriesFromNoneToEight),
            new Sentence("promise 12: shut", LAST_SHUT_WORDS,
                () -> VaultSentences.dueRefusedWhileShut(CrashVault::entries)),
            new Sentence("promise 13: name", "The name of entry i (from 0).", EntrySentences::namesFromZero),
            new Sentence("promise 13: shut", SHUT_WORDS,
                () -> VaultSentences.dueRefusedWhileShut(v -> v.name(0))),
            new Sentence("promise 13: none", "IndexOutOfBoundsException when there is none.",
                EntrySentences::noSuchEntry),
            new Sentence("promise 14: value", "The value of a name (back 0), or its old one, the latest (1) or the one "
                + "before (2).", EntrySentences::values),
            new Sentence("promise 14: shut", SHUT_WORDS,
                () -> VaultSentences.dueRefusedWhileShut(v -> v.value(1, 0))),
            new Sentence("promise 14: back", "IndexOutOfBoundsException when back is not 0 .. 2;",
                EntrySentences::backOutOfBounds),
            new Sentence("promise 14: no name", "NoSuchElementException when there is none.",
                EntrySentences::noSuchName),
            new Sentence("promise 14: no old value", "NoSuchElementException when there is none.",
                EntrySentences::noSuchOldValue));
    }

    private static void putOtherValues() {
        CrashVault v = Scenes.MADE.played();
        v.put(5, Long.MIN_VALUE);
        Check.due("the first value", "[" + Long.MIN_VALUE + "]", () -> Check.history(v, 5));
        v.put(5, 0);
        Check.due("another value", "[0, " + Long.MIN_VALUE + "]", () -> Check.history(v, 5));
        v.put(5, 1L << 32);
        Check.due("another high half", "[4294967296, 0, " + Long.MIN_VALUE + "]", () -> Check.history(v, 5));
        v.put(-5, 7);
        v.put(6, 8);
        Check.due("other names change nothing", "[4294967296, 0, " + Long.MIN_VALUE + "]", () -> Check.history(v, 5));
    }

    private static void putTheSameValue() {
        CrashVault v = Scenes.MADE.played();
        v.put(5, 50);
        v.put(5, 50);
        Check.due("no old value", "[50]", () -> Check.history(v, 5));
        v.put(5, 51);
        v.put(5, 51);
        Check.due("one old value", "[51, 50]", () -> Check.history(v, 5));
        v.put(5, 50);
        v.put(5, 50);
        Check.due("an old value again is another one", "[50, 51, 50]", () -> Check.history(v, 5));
        v.put(6, 0);
        v.put(6, 0);
        Check.due("value 0", "[0]", () -> Check.history(v, 6));
    }

    private static void thirdLatestIsForgotten() {
        CrashVault v = Scenes.MADE.played();
        for (int value = 1; value <= 3; value++) {
            v.put(5, value);
        }
        Check.due("two old values are kept", "[3, 2, 1]", () -> Check.history(v, 5));
        v.put(5, 4);
        Check.due("a third is forgotten", "[4, 3, 2]", () -> Check.history(v, 5));
        v.put(5, 4);
        Check.due("the same value forgets none", "[4, 3, 2]", () -> Check.history(v, 5));
        Check.due("and takes no room", 30 + 33, v::length);
    }

    private static void trueIfNew() {
        CrashVault v = Scenes.MADE.played();
        for (long name : new long[] {1, -1, Long.MIN_VALUE, Long.MAX_VALUE, 1L << 32}) {
            Check.due("new " + name, true, () -> v.put(name, 0));
            Check.due("the same value " + name, false, () -> v.put(name, 0));
            Check.due("another value " + name, false, () -> v.put(name, 1));
        }
        v.remove(1);
        Check.due("new again", true, () -> v.put(1, 1));
        v.open(Scenes.PASSWORD);
        Check.due("new again since it was not saved", true, () -> v.put(1, 1));
    }

    private static void putNameZero() {
        Check.dueRefused("no entries", "IllegalArgumentException", Scenes.MADE, v -> v.put(0, 1));
        Check.dueRefused("some entries", "IllegalArgumentException", Scenes.UNSAVED, v -> v.put(0, 0));
        Check.due("name 1", true, () -> Scenes.MADE.played().put(1, 0));
        Check.due("name -1", true, () -> Scenes.MADE.played().put(-1, 0));
    }

    private static void putWhenThereAreEight() {
        for (long name : new long[] {9, -1, Long.MIN_VALUE, Long.MAX_VALUE}) {
            Check.dueRefused("a ninth, " + name, "UnsupportedOperationException", Scenes.FULL, v -> v.put(name, 1));
        }
        CrashVault v = Scenes.FULL.played();
        for (int name = 1; name <= 8; name++) {
            int old = name;
            Check.due("not new, " + name, false, () -> v.put(old, -old));
            Check.due("its value", -old, () -> v.value(old, 0));
        }
        v.remove(4);
        Check.due("an eighth again", true, () -> v.put(9, 1));
        Check.due("a ninth again", "throws.UnsupportedOperationException", () -> v.put(4, 1));
        v.save(Scenes.PLENTY);
        v.open(Scenes.PASSWORD);
        Check.due("a ninth, after it was opened", "throws.UnsupportedOperationException", () -> v.put(4, 1));
        Check.due("not new, after it was opened", false, () -> v.put(9, 2));
    }

    private static void remove() {
        CrashVault v = Scenes.MADE.played();
        Check.due("none, when empty", false, () -> v.remove(1));
        Check.due("name 0", false, () -> v.remove(0));
        for (int name = 1; name <= 8; name++) {
            v.put(name, name);
            v.put(name, 10 * name);
        }
        Check.due("none, when full", false, () -> v.remove(9));
        Check.due("name 0, when full", false, () -> v.remove(0));
        Check.due("the high half is another", false, () -> v.remove(1L << 32 | 4));
        Check.due("in the middle", true, () -> v.remove(4));
        Check.due("again", false, () -> v.remove(4));
        Check.due("the first", true, () -> v.remove(1));
        Check.due("the last", true, () -> v.remove(8));
        Check.due("the rest", "[1, 155, 2=[20, 2], 3=[30, 3], 5=[50, 5], 6=[60, 6], 7=[70, 7]]",
            () -> Check.seen(v));
        for (int name : new int[] {7, 2, 5, 3, 6}) {
            Check.due("remove " + name, true, () -> v.remove(name));
        }
        Check.due("empty again", "[1, 30]", () -> Check.seen(v));
        Check.due("none, when empty again", false, () -> v.remove(7));
    }

    private static void oldValuesGoToo() {
        CrashVault v = Scenes.FULL.played();
        v.remove(8);
        v.put(8, 1);
        Check.due("the last, put again", "[1]", () -> Check.history(v, 8));
        v.remove(1);
        v.put(1, 2);
        Check.due("the first, put again", "[2]", () -> Check.history(v, 1));
        v.put(1, 3);
        Check.due("with another value", "[3, 2]", () -> Check.history(v, 1));
    }

    private static void entriesFromNoneToEight() {
        CrashVault v = Scenes.MADE.played();
        Check.due("none", 0, v::entries);
        for (int name = 1; name <= 8; name++) {
            v.put(name, 1);
            Check.due("so many", name, v::entries);
        }
        v.put(8, 2);
        Check.due("after another value", 8, v::entries);
        Check.answer(() -> v.put(9, 1));
        Check.due("after a ninth was refused", 8, v::entries);
        for (int name = 8; name >= 1; name--) {
            v.remove(name);
            Check.due("after a remove", name - 1, v::entries);
        }
        v.remove(1);
        Check.due("none again", 0, v::entries);
    }

    private static void namesFromZero() {
        long[] names = {7, -7, Long.MAX_VALUE, Long.MIN_VALUE, 1L << 33, 6, -1, 1};
        CrashVault v = Scenes.MADE.played();
        for (int count = 1; count <= names.length; count++) {
            v.put(names[count - 1], 1);
            long[] inOrder = Arrays.copyOf(names, count);
            Arrays.sort(inOrder);
            for (int i = 0; i < count; i++) {
                int at = i;
                Check.due("name(" + i + ") of " + count, inOrder[i], () -> v.name(at));
            }
        }
    }

    private static void noSuchEntry() {
        for (int entries = 0; entries <= 8; entries++) {
            Scene scene = Scenes.MADE.then(Scenes.entries(entries, 0));
            for (int i : new int[] {-1, entries, entries + 1, 8, Integer.MIN_VALUE, Integer.MAX_VALUE}) {
                Check.due("name(" + i + ") of " + entries, "throws.IndexOutOfBoundsException",
                    () -> scene.played().name(i));
            }
        }
        Check.dueRefused("behind the last", "IndexOutOfBoundsException", Scenes.UNSAVED, v -> v.name(3));
        Check.dueRefused("before the first", "IndexOutOfBoundsException", Scenes.UNSAVED, v -> v.name(-1));
        Scene removed = Scenes.FULL.then(v -> v.remove(8));
        Check.dueRefused("the one that was removed", "IndexOutOfBoundsException", removed, v -> v.name(7));
    }

    private static void values() {
        CrashVault v = Scenes.MADE.played();
        v.put(1, Long.MIN_VALUE);
        v.put(1, -1);
        v.put(1, Long.MAX_VALUE);
        v.put(-1, 4);
        for (int again = 0; again < 2; again++) {
            Check.due("the value", Long.MAX_VALUE, () -> v.value(1, 0));
            Check.due("the latest", -1, () -> v.value(1, 1));
            Check.due("the one before", Long.MIN_VALUE, () -> v.value(1, 2));
            Check.due("another name", 4, () -> v.value(-1, 0));
            v.save(Scenes.PLENTY);
            v.put(1, 0);
            v.open(Scenes.PASSWORD);
        }
    }

    private static void backOutOfBounds() {
        for (int back : new int[] {-1, 3, 4, Integer.MIN_VALUE, Integer.MAX_VALUE}) {
            Check.dueRefused("back " + back, "IndexOutOfBoundsException", Scenes.FULL, v -> v.value(1, back));
        }
        for (int back = 0; back <= 2; back++) {
            int in = back;
            Check.due("back " + back, Scenes.rows(1, 2)[0][1 + in], () -> Scenes.FULL.played().value(1, in));
        }
    }

    private static void noSuchName() {
        Check.dueRefused("no entries", "NoSuchElementException", Scenes.MADE, v -> v.value(1, 0));
        for (int back = 0; back <= 2; back++) {
            int in = back;
            Check.dueRefused("name 9, back " + back, "NoSuchElementException", Scenes.FULL, v -> v.value(9, in));
            Check.dueRefused("name 0, back " + back, "NoSuchElementException", Scenes.FULL, v -> v.value(0, in));
        }
        Check.dueRefused("the high half is another", "NoSuchElementException", Scenes.FULL,
            v -> v.value(1L << 32 | 1, 0));
        Check.dueRefused("the one that was removed", "NoSuchElementException", Scenes.FULL.then(v -> v.remove(8)),
            v -> v.value(8, 0));
    }

    private static void noSuchOldValue() {
        for (int olds = 0; olds <= 2; olds++) {
            Scene scene = Scenes.MADE.then(Scenes.entries(8, olds));
            for (int back = 0; back <= 2; back++) {
                int in = back;
                Object due = back <= olds ? Scenes.rows(8, olds)[7][1 + back] : "throws.NoSuchElementException";
                Check.due(olds + " old values, back " + back, due, () -> scene.played().value(8, in));
            }
        }
        Check.dueRefused("no old value", "NoSuchElementException", Scenes.MADE.then(Scenes.entries(1, 0)),
            v -> v.value(1, 1));
        Check.dueRefused("one old value", "NoSuchElementException", Scenes.MADE.then(Scenes.entries(1, 1)),
            v -> v.value(1, 2));
    }
}
