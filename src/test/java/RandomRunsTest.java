import java.util.Arrays;
import java.util.Random;

/** Runs of calls that are drawn with fixed seeds, on the program and on the model. */
public final class RandomRunsTest {
    private static final int RUNS = 800;
    private static final int MOST_CALLS = 512;

    private final int seed;
    private final Random random;
    private final CrashVault vault = new CrashVault();
    private final ModelVault model = new ModelVault();
    private final long[] passwords;
    private final long[] names;
    private int calls = 0;
    // What was spoilt last, so that it is often mended again.
    private int spoiltAt = 0;
    private int spoiltBits = 0;

    private RandomRunsTest(int seed) {
        this.seed = seed;
        this.random = new Random(seed);
        this.passwords = new long[] {random.nextLong(), 0, random.nextInt(3) - 1};
        this.names = new long[12];
        for (int i = 0; i < names.length; i++) {
            names[i] = random.nextBoolean() ? random.nextLong() : random.nextInt(9) - 4;
        }
    }

    public static void main(String[] args) {
        for (int seed = 0; seed < RUNS; seed++) {
            RandomRunsTest run = new RandomRunsTest(seed);
            if (seed % 2 == 1) {
                run.plantForged(0);
                run.plantForged(1);
            }
            while (run.calls < MOST_CALLS) {
                run.step();
            }
        }
        Check.end();
    }

    private void due(String call, Check.Call got, Check.Call want) {
        calls++;
        Check.due("seed " + seed + ", call " + calls + ": " + call, Check.answer(want), got);
    }

    /** A file whose seals are right; its content and header mostly are, too. */
    private void plantForged(int slot) {
        long[][] rows = new long[random.nextInt(5)][];
        for (int i = 0; i < rows.length; i++) {
            rows[i] = new long[2 + random.nextInt(random.nextInt(12) == 0 ? 4 : 3)];
            Arrays.fill(rows[i], random.nextInt(4));
            rows[i][0] = anyName();
        }
        if (random.nextInt(8) != 0) {
            Arrays.sort(rows, (a, b) -> Long.compare(a[0], b[0]));
        }
        byte[] content = Forge.contentOf(rows);
        if (random.nextInt(10) == 0) {
            content = Arrays.copyOf(content, random.nextInt(content.length + 20));
        }
        Forge file = new Forge(content);
        file.serial = random.nextInt(4) == 0 ? Integer.MAX_VALUE - random.nextInt(2) : random.nextInt(4) - 2;
        file.salt = random.nextInt();
        file.rounds = Math.max(0, rounds());
        byte[] bytes = file.file(password());
        for (int i = 0; i < bytes.length; i++) {
            spoilBoth(300 * slot + i, bytes[i]);
        }
    }

    private void step() {
        int kind = random.nextInt(100);
        if (kind < 26) {
            change();
        } else if (kind < 56) {
            lookAtVault();
        } else if (kind < 72) {
            lookAtDisk();
        } else {
            keep();
        }
    }

    private long password() {
        return passwords[random.nextInt(10) < 7 ? 0 : random.nextInt(passwords.length)];
    }

    private long anyName() {
        return names[random.nextInt(names.length)];
    }

    private int rounds() {
        int[] edges = {0, 41, 40, -1};
        return random.nextInt(10) == 0 ? edges[random.nextInt(edges.length)] : 1 + random.nextInt(5);
    }

    private int power() {
        int length = model.isOpen() ? model.length() : 30;
        switch (random.nextInt(12)) {
            case 0:
                return random.nextInt(length);
            case 1:
                return length - 1;
            case 2:
                return length;
            case 3:
                return -random.nextInt(2);
            default:
                return length + random.nextInt(900);
        }
    }

    private void change() {
        long name = anyName();
        long value = random.nextInt(3);
        if (random.nextInt(6) == 0) {
            due("remove(" + name + ")", () -> vault.remove(name), () -> model.remove(name));
        } else {
            due("put(" + name + ", " + value + ")", () -> vault.put(name, value), () -> model.put(name, value));
        }
    }

    private void lookAtVault() {
        int i = random.nextInt(10) - 1;
        long name = anyName();
        int back = random.nextInt(5) - 1;
        switch (random.nextInt(8)) {
            case 0:
                due("isOpen()", vault::isOpen, model::isOpen);
                break;
            case 1:
                due("length()", vault::length, model::length);
                break;
            case 2:
                due("serial()", vault::serial, model::serial);
                break;
            case 3:
                due("entries()", vault::entries, model::entries);
                break;
            case 4:
            case 5:
                due("name(" + i + ")", () -> vault.name(i), () -> model.name(i));
                break;
            default:
                due("value(" + name + ", " + back + ")", () -> vault.value(name, back), () -> model.value(name, back));
        }
    }

    private void lookAtDisk() {
        int i = random.nextInt(20) == 0 ? random.nextInt(1200) - 300 : 300 * random.nextInt(2) + random.nextInt(120);
        int slot = random.nextInt(20) == 0 ? random.nextInt(6) - 2 : random.nextInt(2);
        long password = password();
        if (random.nextInt(3) == 0) {
            due("isGood(" + slot + ", " + password + ")",
                () -> vault.isGood(slot, password), () -> model.isGood(slot, password));
        } else {
            due("disk(" + i + ")", () -> vault.disk(i), () -> model.disk(i));
        }
    }

    private void keep() {
        long password = password();
        int rounds = rounds();
        int power = power();
        int salt = random.nextInt();
        int kind = random.nextInt(20);
        if (kind < 5) {
            due("open(" + password + ")", () -> vault.open(password), () -> model.open(password));
        } else if (kind < 12) {
            due("save(" + power + ")", () -> vault.save(power), () -> model.save(power));
        } else if (kind < 14) {
            due("renew(" + password + ", " + rounds + ")",
                () -> renewed(password, rounds), () -> modelRenewed(password, rounds));
        } else if (kind < 15) {
            due("shut()", vault::shut, model::shut);
        } else if (kind < 16 || !model.isOpen() && kind < 18) {
            due("make(" + password + ", " + salt + ", " + rounds + ", " + power + ")",
                () -> vault.make(password, salt, rounds, power), () -> model.make(password, salt, rounds, power));
        } else {
            spoil();
        }
    }

    private String renewed(long password, int rounds) {
        vault.renew(password, rounds);
        return "nothing";
    }

    private String modelRenewed(long password, int rounds) {
        model.renew(password, rounds);
        return "nothing";
    }

    private void spoil() {
        if (random.nextBoolean()) {
            spoiltAt = random.nextInt(640) - 20;
            spoiltBits = random.nextInt();
        }
        spoilBoth(spoiltAt, spoiltBits);
    }

    private void spoilBoth(int at, int bits) {
        Check.Call program = () -> {
            vault.spoil(at, bits);
            return "nothing";
        };
        due("spoil(" + at + ", " + bits + ")", program, () -> {
            model.spoil(at, bits);
            return "nothing";
        });
    }
}
