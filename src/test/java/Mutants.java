import java.util.List;
import java.util.stream.Stream;

/**
 * The program with one sentence of the document broken, in many ways: the code that is changed (it
 * stands once in the program, white space and comments aside), and what it becomes.
 */
final class Mutants {
    /** The test of the sentence with this name must find it. */
    record Mutant(String sentence, String from, String to) {
    }

    private Mutants() {
    }

    private static Mutant of(String sentence, String from, String to) {
        return new Mutant(sentence, from, to);
    }

    static List<Mutant> all() {
        return Stream.of(ofWhatItIs(), ofFiles(), ofGoodSlots(), ofSaves(), ofThrows(), ofMakeAndOpen(), ofLengthToSerial(),
            ofEntries(), ofLooks(), ofTheDisk()).flatMap(List::stream).toList();
    }

    private static List<Mutant> ofWhatItIs() {
        String slot = "newestGood(savedPassword) == 0 ? 1 : 0";
        String fileSeal = "|| row.numberAt(end, SEAL_BYTES) != cipher.seal(row, end, FILE_USE)";
        return List.of(
            of("what it is: kept under a password", "key[0] = (int) password; key[1] = (int) (password >>> 32);", ""),
            of("what it is: kept under a password", "list.copyFrom(other.list);", "list.clearAll();"),
            of("what it is: kept under a password", "olds[to] = other.olds[from];", "olds[to] = 0;"),
            of("what it is: kept under a password", "return saveInto(" + slot + ", power);",
                "diskBytes[newestGood(savedPassword) * SLOT_BYTES] = 0; return saveInto(" + slot + ", power);"),
            of("what it is: power fails", slot, "newestGood(savedPassword) == 0 ? 0 : 1"),
            of("what it is: power fails", slot, "0"),
            of("what it is: power fails", slot, "1"),
            of("what it is: power fails", "opened = power >= bytes;", "opened = power >= bytes - 8;"),
            of("what it is: power fails while renewed", "newestGood(savedPassword)", "newestGood(vault.password)"),
            of("what it is: power fails while renewed", "requireRounds(rounds); vault.password = password; "
                + "vault.rounds = rounds; }", "requireRounds(rounds); vault.password = password; savedPassword = "
                + "password; vault.rounds = rounds; }"),
            of("what it is: power fails again", slot, "diskBytes[2] > diskBytes[302] ? 1 : 0"),
            of("what it is: power fails again", "vault.copyFrom(newest == 0 ? found0 : found1);",
                "vault.serial = (newest == 0 ? found0 : found1).serial;"),
            of("what it is: any bit changed", fileSeal, ""),
            of("what it is: any bit changed", "4 * i < size;", "4 * i + 3 < size;"),
            of("what it is: any bit changed", "row.numberAt(end, SEAL_BYTES) != cipher.seal(row, end, FILE_USE)",
                "(int) row.numberAt(end, 4) != (int) cipher.seal(row, end, FILE_USE)"),
            of("what it is: many bytes changed", fileSeal, ""),
            of("what it is: many bytes changed", "if (newest == NONE) {", "if (newest == NONE && !opened) {"));
    }

    private static List<Mutant> ofFiles() {
        return List.of(
            of("terms: ints wrap", "vault.serial++;", "vault.serial = Math.max(vault.serial, vault.serial + 1);"),
            of("terms: the lowest byte is first", "(number >>> 8 * i)", "(number >>> 8 * (size - 1 - i))"),
            of("terms: stir", "d = d << 16 | d >>> 16;", "d = d << 15 | d >>> 17;"),
            of("terms: stir", "b = b << 12 | b >>> 20;", "b = b << 12 | b >> 20;"),
            of("terms: stir", "b = b << 7 | b >>> 25;", "b = b << 8 | b >>> 24;"),
            of("terms: block", "block[i] += start[i];", "block[i] ^= start[i];"),
            of("terms: block", "start[14] = z;", "start[14] = 0;"),
            of("terms: block", "stir(3, 4, 9, 14);", ""),
            of("terms: seal", "(int) row.numberAt(4 * i, Math.min(4, size - 4 * i))", "(int) row.numberAt(4 * i, 4)"),
            of("terms: seal", "4 * i < size;", "4 * i <= size;"),
            of("terms: seal", "4 * i < size;", "4 * i + 3 < size;"),
            of("terms: seal", "advance(chain, size, -1, use);", "advance(chain, size, 0, use);"),
            of("terms: key", "(int) (password >>> 32)", "(int) (password >>> 33)"),
            of("terms: key", "key[2] = salt;", "key[2] = Math.abs(salt);"),
            of("terms: key", "i < rounds; i++", "i <= rounds; i++"),
            of("terms: key", "i < rounds; i++", "i < Math.min(rounds, 39); i++"),
            of("terms: at most 8 entries", "MOST_ENTRIES = 8;", "MOST_ENTRIES = 7;"),
            of("terms: at most 8 entries", "MOST_ENTRIES = 8;", "MOST_ENTRIES = 9;"),
            of("terms: no name is 0", "if (name == 0) {", "if ((int) name == 0) {"),
            of("terms: no name is 0", "if (name == 0) {", "if (name == 0 && value == 0) {"),
            of("terms: names in order", "names[at - 1] > name", "names[at - 1] - name > 0"),
            of("terms: names in order", "names[at - 1] > name", "Long.compareUnsigned(names[at - 1], name) > 0"),
            of("terms: names in order", "names[at - 1] > name", "(int) names[at - 1] > (int) name"),
            of("terms: values are longs", "values[at][0] = value;", "values[at][0] = (int) value;"),
            of("terms: values are longs", "row[0] = value;", "row[0] = (int) value;"),
            of("terms: at most two old values", "MOST_OLD = 2;", "MOST_OLD = 3;"),
            of("terms: at most two old values", "Math.min(olds[at] + 1, MOST_OLD)", "Math.min(olds[at] + 1, 1)"),
            of("terms: content", "values[i][back], 8);", "values[i][olds[i] - back], 8);"),
            of("terms: content", "row.setNumber(from, count, 1);", "row.setNumber(from, Math.min(count, 7), 1);"),
            of("terms: disk", "DISK_BYTES = 600;", "DISK_BYTES = 601;"),
            of("terms: disk", "diskBytes, slot * SLOT_BYTES, Math.min", "diskBytes, slot * 299, Math.min"),
            of("terms: header", "CONTENT_BYTES_AT, contentBytes, 2", "CONTENT_BYTES_AT, contentBytes & 0xff, 2"),
            of("terms: header", "SECOND_SIGN = 0x32;", "SECOND_SIGN = 0x31;"),
            of("terms: header", "SERIAL_AT, vault.serial, 4", "SERIAL_AT, vault.serial, 3"),
            of("terms: stream", "j / BLOCK_BYTES, serial", "Math.min(j / BLOCK_BYTES, 3), serial"),
            of("terms: stream", "j % BLOCK_BYTES;", "j % 32;"),
            of("terms: seals of a file", "FILE_USE = 4;", "FILE_USE = 3;"),
            of("terms: seals of a file", "HEADER_USE = 3;", "HEADER_USE = 4;"),
            of("terms: seals of a file", "(long) chain[1] << 32", "(long) chain[2] << 32"));
    }

    private static List<Mutant> ofGoodSlots() {
        return List.of(
            of("terms: good for a password", "setKey(password, found.salt, rounds)",
                "setKey(password & Long.MAX_VALUE, found.salt, rounds)"),
            of("terms: good, first two bytes", "row.bytes[0] != FIRST_SIGN ||", ""),
            of("terms: good, first two bytes", "|| row.bytes[1] != SECOND_SIGN", ""),
            of("terms: good, rounds", "|| rounds < 1 ||", "||"),
            of("terms: good, rounds", "|| rounds < 1 ||", "|| rounds < 2 ||"),
            of("terms: good, rounds", "rounds > MOST_ROUNDS || end", "rounds > MOST_ROUNDS + 1 || end"),
            of("terms: good, rounds", "rounds > MOST_ROUNDS || end", "rounds >= MOST_ROUNDS || end"),
            of("terms: good, both seals", "row.numberAt(HEADER_BYTES, SEAL_BYTES) != cipher.seal(row, HEADER_BYTES, "
                + "HEADER_USE) ||", ""),
            of("terms: good, both seals", "row.numberAt(HEADER_BYTES, SEAL_BYTES) != cipher.seal(row, HEADER_BYTES, "
                + "HEADER_USE) ||", "(int) row.numberAt(HEADER_BYTES, 4) != (int) cipher.seal(row, HEADER_BYTES, "
                + "HEADER_USE) ||"),
            of("terms: good, both seals", "|| row.numberAt(end, SEAL_BYTES) != cipher.seal(row, end, FILE_USE)", ""),
            of("terms: good, both seals", "row.numberAt(end, SEAL_BYTES) != cipher.seal(row, end, FILE_USE)",
                "(int) row.numberAt(end, 4) != (int) cipher.seal(row, end, FILE_USE)"),
            of("terms: good, room in the slot", "end + SEAL_BYTES > SLOT_BYTES", "end + SEAL_BYTES > SLOT_BYTES + 1"),
            of("terms: good, room in the slot", "|| end + SEAL_BYTES > SLOT_BYTES", ""),
            of("terms: good, room in the slot", "end + SEAL_BYTES > SLOT_BYTES", "end + SEAL_BYTES > SLOT_BYTES - 7"),
            of("terms: good, at most 8 entries", "row.bytes[from] > MOST_ENTRIES", "row.bytes[from] > 9"),
            of("terms: good, at most 8 entries", "row.bytes[from] > MOST_ENTRIES", "row.bytes[from] > 7"),
            of("terms: good, names not 0", "name == 0 || i > 0", "i > 0"),
            of("terms: good, names not 0", "name == 0 || i > 0", "(int) name == 0 || i > 0"),
            of("terms: good, names not 0", "name == 0 || i > 0", "name == 0 && i == 0 || i > 0"),
            of("terms: good, names greater", "name <= names[i - 1]", "name < names[i - 1]"),
            of("terms: good, names greater", "name <= names[i - 1]", "name == names[i - 1]"),
            of("terms: good, names greater", "name <= names[i - 1]", "name - names[i - 1] <= 0"),
            of("terms: good, names greater", "name <= names[i - 1]",
                "Long.compareUnsigned(name, names[i - 1]) <= 0"),
            of("terms: good, names greater", "i > 0 && name", "i > 0 && i < 7 && name"),
            of("terms: good, at most two old values", "old > MOST_OLD ||", ""),
            of("terms: good, at most two old values", "old > MOST_OLD ||", "old >= MOST_OLD ||"),
            of("terms: good, just so many bytes", "return at == end;", "return at <= end;"),
            of("terms: good, just so many bytes", "return at == end;", "return true;"),
            of("terms: newest, greatest serial", "found1.serial > found0.serial", "found1.serial < found0.serial"),
            of("terms: newest, greatest serial", "found1.serial > found0.serial",
                "(found1.serial & 0xff) > (found0.serial & 0xff)"),
            of("terms: newest, greatest serial", "found1.serial > found0.serial",
                "found1.serial == found0.serial + 1"),
            of("terms: newest, with its sign", "found1.serial > found0.serial", "found1.serial - found0.serial > 0"),
            of("terms: newest, with its sign", "found1.serial > found0.serial",
                "Integer.compareUnsigned(found1.serial, found0.serial) > 0"),
            of("terms: newest, of two slot 0", "found1.serial > found0.serial", "found1.serial >= found0.serial"),
            of("terms: newest, only of the good", "if (good0 && good1) {", "if (good0 || good1) {"));
    }

    private static List<Mutant> ofSaves() {
        String slot = "newestGood(savedPassword) == 0 ? 1 : 0";
        return List.of(
            of("terms: save, one serial more", "vault.serial++;", "vault.serial += 2;"),
            of("terms: save, one serial more", "vault.serial++;", "vault.serial = diskBytes[2] + 1;"),
            of("terms: save, not the newest slot", slot, "vault.serial % 2"),
            of("terms: save, not the newest slot", slot, "newestGood(savedPassword) == 0 ? 0 : 1"),
            of("terms: save, neither slot is good", slot, "newestGood(savedPassword) == 1 ? 0 : 1"),
            of("terms: save, the password when opened", "savedPassword = password;", ""),
            of("terms: save, the password when opened", "newestGood(savedPassword)", "newestGood(vault.password)"),
            of("terms: save, the password when made", "newestGood(savedPassword)", "newestGood(vault.password)"),
            of("terms: save, the password when made", "savedPassword = vault.password;",
                "if (vault.serial > 1) { savedPassword = vault.password; }"),
            of("terms: save, the password when saved", "savedPassword = vault.password;",
                "if (vault.serial == 1) { savedPassword = vault.password; }"),
            of("terms: save, byte after byte", "Math.min(power, bytes)", "power < bytes ? 0 : bytes"),
            of("terms: save, byte after byte", "Math.min(power, bytes)", "Math.min(power, bytes - 1)"),
            of("terms: save, byte after byte", "Math.min(power, bytes)", "bytes"),
            of("terms: save, byte after byte", "Math.min(power, bytes)", "power < bytes ? power : SLOT_BYTES"),
            of("terms: save, power for all", "opened = power >= bytes;", "opened = power > bytes;"),
            of("terms: save, power for all", "opened = power >= bytes;", "opened = power - bytes == 0;"),
            of("terms: save, power fails", "opened = power >= bytes;", "opened = power >= bytes - 1;"),
            of("terms: save, power fails", "return opened; } private static final class EntryList",
                "boolean saved = opened; opened = true; return saved; } private static final class EntryList"),
            of("what it is: 512 calls", "vault.serial++;", "vault.serial = (vault.serial + 1) % 511;"));
    }

    private static List<Mutant> ofThrows() {
        return List.of(
            of("terms: what throws changes nothing, open", "requireRounds(rounds); requirePower(power);",
                "vault.salt = salt; requireRounds(rounds); requirePower(power);"),
            of("terms: what throws changes nothing, open", "requireRounds(rounds); requirePower(power);",
                "requireRounds(rounds); diskBytes[599] = 0; opened = false; requirePower(power);"),
            of("terms: what throws changes nothing, open", "int newest = newestGood(password);",
                "opened = false; int newest = newestGood(password);"),
            of("terms: what throws changes nothing, open", "int newest = newestGood(password);",
                "savedPassword = password; int newest = newestGood(password);"),
            of("terms: what throws changes nothing, open", "requirePower(power); return saveInto",
                "vault.serial++; requirePower(power); vault.serial--; return saveInto"),
            of("terms: what throws changes nothing, open", "requireRounds(rounds); vault.password = password; "
                + "vault.rounds = rounds; }", "vault.password = password; requireRounds(rounds); "
                + "vault.rounds = rounds; }"),
            of("terms: what throws changes nothing, full", "if (vault.list.count >= MOST_ENTRIES) {",
                "if (vault.list.count >= MOST_ENTRIES) { vault.list.drop(0);"),
            of("terms: what throws changes nothing, full", "if (vault.list.count >= MOST_ENTRIES) {",
                "if (vault.list.count >= MOST_ENTRIES) { vault.list.values[7][2] = value;"),
            of("terms: what throws changes nothing, shut", "if (!opened) {", "if (!opened) { opened = true;"),
            of("terms: what throws changes nothing, shut", "if (!opened) {", "if (!opened) { diskBytes[599] = 1;"),
            of("terms: what throws changes nothing, shut", "if (newest == NONE) {",
                "if (newest == NONE) { opened = true;"),
            of("terms: the exception named first", "requireOpen(); requirePower(power);",
                "requirePower(power); requireOpen();"),
            of("terms: the exception named first", "requireOpen(); requireRounds(rounds);",
                "requireRounds(rounds); requireOpen();"),
            of("terms: the exception named first", "requireOpen(); if (name == 0) {",
                "if (name != 0) { requireOpen(); } if (name == 0) {"),
            of("terms: the exception named first", "if (name == 0) {",
                "if (vault.list.count >= MOST_ENTRIES && vault.list.find(name) == NONE) { throw new "
                + "UnsupportedOperationException(); } if (name == 0) {"),
            of("terms: the exception named first", "requireOpen(); if (i < 0 || i >= vault.list.count) {",
                "if (i >= 0) { requireOpen(); } if (i < 0 || i >= vault.list.count) {"),
            of("terms: the exception named first", "requireOpen(); if (back < 0",
                "if (back <= MOST_OLD) { requireOpen(); } if (back < 0"),
            of("terms: the exception named first", "if (back < 0 ||",
                "if (vault.list.find(name) == NONE) { throw new NoSuchElementException(); } if (back < 0 ||"));
    }

    private static List<Mutant> ofMakeAndOpen() {
        return List.of(
            of("promise 1: a new object", "public CrashVault() { opened = false;",
                "public CrashVault() { opened = true;"),
            of("promise 1: a new object", "public CrashVault() {", "public CrashVault() { diskBytes[599] = 1;"),
            of("promise 2: without entries", "vault.list.clearAll();", ""),
            of("promise 2: without entries", "vault.salt = salt;", ""),
            of("promise 2: without entries", "vault.rounds = rounds; vault.serial = 0;", "vault.serial = 0;"),
            of("promise 2: disk and serial", "i < DISK_BYTES; i++", "i < DISK_BYTES - 1; i++"),
            of("promise 2: disk and serial", "i < DISK_BYTES; i++", "i < SLOT_BYTES; i++"),
            of("promise 2: disk and serial", "int i = 0; i < DISK_BYTES; i++", "int i = 1; i < DISK_BYTES; i++"),
            of("promise 2: disk and serial", "vault.serial = 0;", ""),
            of("promise 2: power", "opened = power >= bytes;", "opened = power > bytes;"),
            of("promise 2: power", "opened = power >= bytes;", "opened = power >= bytes - 1;"),
            of("promise 2: rounds refused", "if (rounds < 1 ||", "if (rounds < 0 ||"),
            of("promise 2: rounds refused", "if (rounds < 1 ||", "if (rounds < 2 ||"),
            of("promise 2: rounds refused", "rounds > MOST_ROUNDS) {", "rounds > MOST_ROUNDS + 1) {"),
            of("promise 2: rounds refused", "rounds > MOST_ROUNDS) {", "rounds >= MOST_ROUNDS) {"),
            of("promise 2: rounds refused", "rounds > MOST_ROUNDS) {", "(rounds & 0xff) > MOST_ROUNDS) {"),
            of("promise 2: power refused", "if (power < 0) {", "if (power < -1) {"),
            of("promise 2: power refused", "if (power < 0) {", "if (power <= 0) {"),
            of("promise 2: power refused", "requireRounds(rounds); requirePower(power);", "requireRounds(rounds);"),
            of("promise 3: open", "vault.copyFrom(newest == 0 ? found0 : found1);", "vault.copyFrom(found1);"),
            of("promise 3: open", "vault.copyFrom(newest == 0 ? found0 : found1);",
                "if (!opened) { vault.copyFrom(newest == 0 ? found0 : found1); }"),
            of("promise 3: open", "vault.copyFrom(newest == 0 ? found0 : found1);",
                "vault.copyFrom(newest == 0 ? found0 : found1); vault.salt = found1.salt;"),
            of("promise 3: open", "opened = true; return vault.serial;", "return vault.serial;"),
            of("promise 3: none good", "if (newest == NONE) {", "if (newest == NONE && !opened) {"),
            of("promise 3: none good", "if (newest == NONE) {", "if (newest == NONE && diskBytes[0] == 0) {"),
            of("promise 4: shut", "return wasOpen;", "return true;"),
            of("promise 4: shut", "opened = false; return wasOpen;", "return wasOpen;"),
            of("promise 4: shut", "opened = false; return wasOpen;",
                "if (opened) { saveInto(newestGood(savedPassword) == 0 ? 1 : 0, DISK_BYTES); } opened = false; "
                + "return wasOpen;"),
            of("promise 5: is open", "public boolean isOpen() { return opened; }",
                "public boolean isOpen() { return opened || vault.serial > 0; }"));
    }

    private static List<Mutant> ofLengthToSerial() {
        String renewed = "requireOpen(); requireRounds(rounds); vault.password = password; vault.rounds = rounds;";
        return List.of(
            of("promise 6: length", "CONTENT_AT + vault.list.contentBytes() + SEAL_BYTES",
                "CONTENT_AT + vault.list.contentBytes()"),
            of("promise 6: length", "return form.fileBytes(vault);", "return Math.min(form.fileBytes(vault), 293);"),
            of("promise 6: shut", "requireOpen(); return form.fileBytes(vault);", "return form.fileBytes(vault);"),
            of("promise 7: save", "opened = power >= bytes;", "opened = power > bytes;"),
            of("promise 7: save", "opened = power >= bytes;", "opened = power >= bytes - 1;"),
            of("promise 7: shut", "requireOpen(); requirePower(power);", "requirePower(power);"),
            of("promise 7: power refused", "requirePower(power); return saveInto", "return saveInto"),
            of("promise 7: power refused", "if (power < 0) {", "if (power <= 0) {"),
            of("promise 7: power refused", "if (power < 0) {", "if (power < -1) {"),
            of("promise 8: renew", renewed, "requireOpen(); requireRounds(rounds); vault.rounds = rounds;"),
            of("promise 8: renew", renewed, "requireOpen(); requireRounds(rounds); vault.password = password;"),
            of("promise 8: renew", renewed, renewed + " vault.salt++;"),
            of("promise 8: renew", renewed, renewed + " saveInto(newestGood(savedPassword) == 0 ? 1 : 0, DISK_BYTES);"),
            of("promise 8: renew is lost", "password = other.password;", ""),
            of("promise 8: renew is lost", "rounds = other.rounds;", ""),
            of("promise 8: shut", "requireOpen(); requireRounds(rounds);", "requireRounds(rounds);"),
            of("promise 8: rounds refused", "requireOpen(); requireRounds(rounds);", "requireOpen();"),
            of("promise 8: rounds refused", "if (rounds < 1 ||", "if (rounds < 2 ||"),
            of("promise 8: rounds refused", "rounds > MOST_ROUNDS) {", "rounds >= MOST_ROUNDS) {"),
            of("promise 9: serial", "requireOpen(); return vault.serial;", "requireOpen(); return vault.serial + 1;"),
            of("promise 9: serial", "requireOpen(); return vault.serial;",
                "requireOpen(); return Math.max(vault.serial, 0);"),
            of("promise 9: shut", "requireOpen(); return vault.serial;", "return vault.serial;"));
    }

    private static List<Mutant> ofEntries() {
        return List.of(
            of("promise 10: put", "row[1] = row[0];", ""),
            of("promise 10: put", "if (row[0] == value) {", "if ((int) row[0] == (int) value) {"),
            of("promise 10: the same value", "if (row[0] == value) {", "if (false) {"),
            of("promise 10: the same value", "if (row[0] == value) {",
                "if (row[0] == value || olds[at] > 0 && row[1] == value) {"),
            of("promise 10: the third latest", "row[2] = row[1];", ""),
            of("promise 10: the third latest", "Math.min(olds[at] + 1, MOST_OLD)", "Math.min(olds[at] + 1, 1)"),
            of("promise 10: new", "vault.list.change(at, value); return false;",
                "vault.list.change(at, value); return true;"),
            of("promise 10: new", "vault.list.insert(name, value); return true;",
                "vault.list.insert(name, value); return name != Long.MIN_VALUE;"),
            of("promise 10: shut", "requireOpen(); if (name == 0) {", "if (name == 0) {"),
            of("promise 10: name 0", "if (name == 0) {", "if (name == 0 && vault.list.count == 0) {"),
            of("promise 10: name 0", "if (name == 0) {", "if (name >= 0 && name <= 1) {"),
            of("promise 10: full", "vault.list.count >= MOST_ENTRIES", "vault.list.count >= MOST_ENTRIES - 1"),
            of("promise 10: full", "if (at != NONE) {", "if (at != NONE && vault.list.count < MOST_ENTRIES) {"),
            of("promise 10: full", "vault.list.count >= MOST_ENTRIES", "vault.list.count > MOST_ENTRIES"),
            of("promise 11: remove", "if (at == NONE) { return false; }", "if (at == NONE) { return name == 0; }"),
            of("promise 11: remove", "vault.list.drop(at); return true;", "vault.list.drop(0); return true;"),
            of("promise 11: remove", "copyEntry(this, i + 1, i);", "names[i] = names[i + 1];"),
            of("promise 11: remove", "if (names[i] == name) {", "if ((int) names[i] == (int) name) {"),
            of("promise 11: removed old values", "olds[at] = 0;", ""),
            of("promise 11: shut", "requireOpen(); int at = vault.list.find(name); if (at == NONE) { return false; }",
                "int at = vault.list.find(name); if (at == NONE) { return false; }"),
            of("promise 12: entries", "return vault.list.count;", "return Math.max(vault.list.count, 1);"),
            of("promise 12: entries", "return vault.list.count;", "return Math.min(vault.list.count, 7);"),
            of("promise 12: shut", "requireOpen(); return vault.list.count;", "return vault.list.count;"));
    }

    private static List<Mutant> ofLooks() {
        String noValue = "at == NONE || back > vault.list.olds[at]";
        return List.of(
            of("promise 13: name", "return vault.list.names[i];", "return vault.list.names[vault.list.count - 1 - i];"),
            of("promise 13: name", "return vault.list.names[i];", "return (int) vault.list.names[i];"),
            of("promise 13: shut", "requireOpen(); if (i < 0 || i >= vault.list.count) {",
                "if (i < 0 || i >= vault.list.count) {"),
            of("promise 13: none", "i >= vault.list.count", "i > vault.list.count"),
            of("promise 13: none", "i >= vault.list.count", "i >= MOST_ENTRIES"),
            of("promise 13: none", "if (i < 0 || i >= vault", "if (i >= vault"),
            of("promise 14: value", "return vault.list.values[at][back];", "return (int) vault.list.values[at][back];"),
            of("promise 14: value", "return vault.list.values[at][back];",
                "return vault.list.values[at][back == 0 ? 0 : 3 - back];"),
            of("promise 14: shut", "requireOpen(); if (back < 0", "if (back < 0"),
            of("promise 14: back", "back > MOST_OLD", "back > MOST_OLD + 1"),
            of("promise 14: back", "back > MOST_OLD", "back >= MOST_OLD"),
            of("promise 14: back", "if (back < 0 ||", "if (back < -1 ||"),
            of("promise 14: back", "if (back < 0 ||", "if (back <= 0 ||"),
            of("promise 14: no name", noValue, "at != NONE && back > vault.list.olds[at]"),
            of("promise 14: no name", "if (names[i] == name) {", "if ((int) names[i] == (int) name) {"),
            of("promise 14: no old value", noValue, "at == NONE"),
            of("promise 14: no old value", noValue, "at == NONE || back > vault.list.olds[at] + 1"),
            of("promise 14: no old value", noValue, "at == NONE || back > 0 && back >= vault.list.olds[at]"));
    }

    private static List<Mutant> ofTheDisk() {
        return List.of(
            of("promise 15: disk", "return diskBytes[i];", "return (byte) diskBytes[i];"),
            of("promise 15: disk", "return diskBytes[i];", "return opened ? 0 : diskBytes[i];"),
            of("promise 15: none", "i >= DISK_BYTES", "i > DISK_BYTES"),
            of("promise 15: none", "i < 0 || i >= DISK_BYTES", "i >= DISK_BYTES"),
            of("promise 15: none", "requireDiskIndex(i); return",
                "if (i == 600) { return 0; } requireDiskIndex(i); return"),
            of("promise 16: spoil", "diskBytes[i] ^= bits & 0xff;", "diskBytes[i] = bits & 0xff;"),
            of("promise 16: spoil", "diskBytes[i] ^= bits & 0xff;", "diskBytes[i] ^= bits & 0xff; opened = false;"),
            of("promise 16: the lowest 8 bits", "bits & 0xff;", "bits;"),
            of("promise 16: the lowest 8 bits", "bits & 0xff;", "bits & 0x7f;"),
            of("promise 16: the lowest 8 bits", "bits & 0xff;", "Math.min(bits, 0xff);"),
            of("promise 16: none", "requireDiskIndex(i); diskBytes", "diskBytes"),
            of("promise 16: none", "requireDiskIndex(i); diskBytes",
                "if ((bits & 0xff) == 0) { return; } requireDiskIndex(i); diskBytes"),
            of("promise 17: good", "slot * SLOT_BYTES, password, found0", "0, password, found0"),
            of("promise 17: good", "slot * SLOT_BYTES, password, found0", "slot * SLOT_BYTES, password, vault"),
            of("promise 17: good", "return form.readFile(diskBytes, slot * SLOT_BYTES, password, found0);",
                "return newestGood(password) == slot;"),
            of("promise 17: no slot", "slot < 0 || slot > 1", "slot > 1"),
            of("promise 17: no slot", "slot < 0 || slot > 1", "slot < 0 || slot > 2"),
            of("promise 17: no slot", "slot < 0 || slot > 1", "slot < -1 || slot > 1"));
    }
}
