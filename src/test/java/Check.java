import java.util.ArrayList;
import java.util.Arrays;
import java.util.List;

/** What the tests share: answers as texts, and a count of those that are not as due. */
final class Check {
    /** A call that answers. */
    interface Call {
        Object run();
    }

    private static int wrong = 0;
    private static int asked = 0;
    // What is looked at, before the name of each call that is not as due.
    private static String about = "";

    private Check() {
    }

    static String answer(Call call) {
        try {
            return String.valueOf(call.run());
        } catch (RuntimeException e) {
            return "throws." + e.getClass().getSimpleName();
        }
    }

    static boolean due(String what, Object want, Call call) {
        String got = answer(call);
        boolean right = got.equals(String.valueOf(want));
        asked++;
        if (!right) {
            wrong++;
            System.out.println(about + what + " answered " + got + ", due is " + want);
        }
        return right;
    }

    /** For calls that answer nothing. */
    static boolean dueVoid(String what, String want, Runnable call) {
        return due(what, want, () -> {
            call.run();
            return "nothing";
        });
    }

    /** After the scene the call throws this, and all is as if it had not been made. */
    static void dueRefused(String what, String exception, Scene scene, Scene call) {
        CrashVault refused = scene.played();
        if (dueVoid(what, "throws." + exception, () -> call.play(refused))) {
            Scene withCall = scene.then(v -> answer(() -> {
                call.play(v);
                return "nothing";
            }));
            due(what + " leaves all as it was", scene.whole(), withCall::whole);
        }
    }

    /** The slot holds these bytes, and 0 behind them. */
    static void dueSlot(String what, byte[] bytes, Scene scene, int slot) {
        due(what, Arrays.toString(Arrays.copyOf(bytes, 300)), () -> Arrays.toString(scene.slot(slot)));
    }

    /** What can be seen of the vault, but for the disk. */
    static String seen(CrashVault v) {
        if (!v.isOpen()) {
            return "shut";
        }
        List<Object> all = new ArrayList<>();
        all.add(v.serial());
        all.add(v.length());
        for (int i = 0; i < v.entries(); i++) {
            long name = v.name(i);
            all.add(name + "=" + history(v, name));
        }
        return all.toString();
    }

    /** The value and the old values of a name, as far as there are some. */
    static String history(CrashVault v, long name) {
        List<String> values = new ArrayList<>();
        for (int back = 0; back <= 2; back++) {
            int b = back;
            String value = answer(() -> v.value(name, b));
            if (value.startsWith("throws.")) {
                break;
            }
            values.add(value);
        }
        return values.toString();
    }

    static byte[] diskBytes(CrashVault v, int from, int size) {
        byte[] bytes = new byte[size];
        for (int i = 0; i < size; i++) {
            bytes[i] = (byte) v.disk(from + i);
        }
        return bytes;
    }

    static void about(String what) {
        about = what + ": ";
    }

    static int wrong() {
        return wrong;
    }

    static void end() {
        System.out.println(asked + " answers, " + wrong + " not as due");
        if (asked == 0 || wrong != 0) {
            System.exit(1);
        }
    }
}
