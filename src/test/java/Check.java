import java.util.ArrayList;
import java.util.List;

/** What the tests share: answers as texts, and a count of those that are not as due. */
final class Check {
    /** A call that answers. */
    interface Call {
        Object run();
    }

    private static int wrong = 0;
    private static int asked = 0;

    private Check() {
    }

    static String answer(Call call) {
        try {
            return String.valueOf(call.run());
        } catch (RuntimeException e) {
            return "throws." + e.getClass().getSimpleName();
        }
    }

    static void due(String what, Object want, Call call) {
        String got = answer(call);
        asked++;
        if (!got.equals(String.valueOf(want))) {
            wrong++;
            System.out.println(what + " answered " + got + ", due is " + want);
        }
    }

    /** For calls that answer nothing. */
    static void dueVoid(String what, String want, Runnable call) {
        due(what, want, () -> {
            call.run();
            return "nothing";
        });
    }

    /** The call throws this, and nothing that can be seen of the vault changes. */
    static void dueThrows(String what, String exception, CrashVault v, Call call) {
        String before = seen(v);
        due(what, "throws." + exception, call);
        due(what + " leaves all as it was", before, () -> seen(v));
    }

    /** What can be seen of the vault, but for the disk. */
    static String seen(CrashVault v) {
        if (!v.isOpen()) {
            return "shut";
        }
        List<Object> all = new ArrayList<>();
        all.add(v.serial());
        all.add(v.length());
        for (int i = 0; i < v.entries(); i++) {
            long name = v.name(i);
            all.add(name + "=" + history(v, name));
        }
        return all.toString();
    }

    /** The value and the old values of a name, as far as there are some. */
    static String history(CrashVault v, long name) {
        List<String> values = new ArrayList<>();
        for (int back = 0; back <= 2; back++) {
            int b = back;
            String value = answer(() -> v.value(name, b));
            if (value.startsWith("throws.")) {
                break;
            }
            values.add(value);
        }
        return values.toString();
    }

    static byte[] diskBytes(CrashVault v, int from, int size) {
        byte[] bytes = new byte[size];
        for (int i = 0; i < size; i++) {
            bytes[i] = (byte) v.disk(from + i);
        }
        return bytes;
    }

    static void end() {
        System.out.println(asked + " answers, " + wrong + " not as due");
        if (asked == 0 || wrong != 0) {
            System.exit(1);
        }
    }
}
