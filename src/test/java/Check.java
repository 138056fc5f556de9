import java.nio.charset.StandardCharsets;
import java.util.Arrays;

/** Counts the checks of one test and prints those whose answer is not the one that is due. */
final class Check {
    static final Class<? extends RuntimeException> INDEX = IndexOutOfBoundsException.class;
    static final Class<? extends RuntimeException> ARGUMENT = IllegalArgumentException.class;
    static final Class<? extends RuntimeException> STATE = IllegalStateException.class;
    static final Class<? extends RuntimeException> ELEMENT = java.util.NoSuchElementException.class;

    interface Call {
        Object run();
    }

    private static int made = 0;
    private static int wrong = 0;
    private static String about = "";

    /** What stands before each wrong answer from now on. */
    static void about(String words) {
        about = words;
    }

    /** The number of checks up to now. */
    static int made() {
        return made;
    }

    static void due(String what, Object got, Object want) {
        made++;
        if (!want.equals(got)) {
            wrong++;
            System.out.println(about + what + " answered " + got + ", due is " + want);
        }
    }

    /** The very class is due: the machine's own exceptions are of classes below the document's. */
    static void dueThrow(String what, Class<? extends RuntimeException> want, Call call) {
        made++;
        String got;
        try {
            got = "the answer " + call.run();
        } catch (RuntimeException e) {
            if (e.getClass() == want) {
                return;
            }
            got = e.getClass().getName();
        }
        wrong++;
        System.out.println(about + what + " gave " + got + ", due is " + want.getName());
    }

    /** Runs the tests one by one; a call that throws where an answer is due ends only the test that made it. */
    static void each(Runnable... tests) {
        for (Runnable test : tests) {
            try {
                test.run();
            } catch (RuntimeException e) {
                due("a call", e + " at " + e.getStackTrace()[0], "an answer");
            }
        }
    }

    /** For the methods with a shop as their only argument. */
    interface ShopCall {
        Object run(int shop);
    }

    static void dueNoSuchShop(String what, HonestScales x, ShopCall call) {
        for (int shop : new int[] {-1, x.shopCount(), Integer.MAX_VALUE, Integer.MIN_VALUE}) {
            dueThrow(what + "(" + shop + ")", INDEX, () -> call.run(shop));
        }
    }

    /** Puts a text into the input buffer, in place of what stands there. */
    static void feed(HonestScales x, String text) {
        byte[] bytes = text.getBytes(StandardCharsets.ISO_8859_1);
        byte[] padded = Arrays.copyOf(bytes, (bytes.length + 19) / 20 * 20);
        x.truncate(0);
        for (int at = 0; at < padded.length; at += 20) {
            x.append(four(padded, at), four(padded, at + 4), four(padded, at + 8), four(padded, at + 12), four(padded, at + 16));
        }
        x.truncate(bytes.length);
    }

    private static int four(byte[] bytes, int at) {
        return java.nio.ByteBuffer.wrap(bytes, at, 4).getInt();
    }

    static HonestScales setup(String text) {
        HonestScales x = new HonestScales();
        feed(x, text);
        x.loadSetup();
        return x;
    }

    static int script(HonestScales x, String text) {
        feed(x, text);
        return x.runScript();
    }

    static String output(HonestScales x, int length) {
        StringBuilder text = new StringBuilder();
        for (int i = 0; i < length; i++) {
            text.append((char) x.outputByte(i));
        }
        return text.toString();
    }

    /** Everything that can be asked of the state, in one text, for "nothing has changed". */
    static String state(HonestScales x) {
        StringBuilder text = new StringBuilder();
        text.append(x.day()).append(' ').append(x.fee()).append(' ').append(x.inspectors()).append(' ').append(x.seed());
        text.append(' ').append(x.bureauCoins()).append(' ').append(x.visits()).append(" weights");
        for (int i = 0; i < x.weightCount(); i++) {
            text.append(' ').append(x.testWeight(i));
        }
        text.append(" bounds ").append(x.bound(1)).append(' ').append(x.bound(999)).append(' ').append(x.bound(1000));
        for (int s = 0; s < x.shopCount(); s++) {
            text.append(" shop ").append(x.offset(s)).append(' ').append(x.slope(s)).append(' ').append(x.drift(s));
            text.append(' ').append(x.purse(s)).append(' ').append(x.thumb(s)).append(' ').append(x.complaints(s));
            text.append(' ').append(x.failures(s)).append(' ').append(x.latestVisit(s)).append(' ').append(x.stampedUntil(s));
            text.append(' ').append(x.finesOf(s)).append(' ').append(x.gainsOf(s)).append(' ').append(x.isOpen(s));
            text.append(' ').append(x.usesThumb(s)).append(' ').append(x.nextGain(s)).append(' ').append(x.purseAfter(s, 40));
        }
        return text.toString();
    }

    /** Ends the test: exit code 1 if an answer was wrong. */
    static void end() {
        System.out.println(made + " checks, " + wrong + " wrong");
        if (wrong != 0 || made == 0) {
            System.exit(1);
        }
    }

    private Check() {
    }
}
