import java.lang.reflect.InvocationTargetException;
import java.lang.reflect.Method;
import java.nio.ByteBuffer;
import java.nio.charset.StandardCharsets;
import java.util.Arrays;
import java.util.Comparator;
import java.util.List;
import java.util.Random;

/** All promises together: long runs of calls, the same ones each time, compared with the oracle. */
public final class OracleTest {
    private static final int RUNS = 1500;
    // With the text that the last of these may begin, an object is not used for more than 512.
    private static final int CALLS = 475;
    private static final List<String> DEAR = List.of("bestThumb", "daysUntilClosed", "purseAfter", "loadSetup", "undo");

    private static Method[] methods;
    private final Random random;
    private final HonestScales mine = new HonestScales();
    private final Oracle other = new Oracle();
    private int calls = 0;

    private OracleTest(int run) {
        random = new Random(run);
    }

    public static void main(String[] args) throws Exception {
        methods = Arrays.stream(Oracle.class.getDeclaredMethods())
            .filter(m -> java.lang.reflect.Modifier.isPublic(m.getModifiers()))
            .sorted(Comparator.comparing(Method::getName)).toArray(Method[]::new);
        Check.due("methods of the oracle", methods.length, 64);
        for (int run = 0; run < RUNS; run++) {
            new OracleTest(run).compare(run);
        }
        Check.end();
    }

    private void compare(int run) throws Exception {
        while (calls < CALLS) {
            String text = nextText();
            if (text.isEmpty()) {
                Method method = methods[random.nextInt(methods.length)];
                if (!DEAR.contains(method.getName()) || random.nextInt(6) == 0) {
                    same(run, method.getName(), arguments(method.getParameterCount()));
                }
            } else {
                enter(run, text);
            }
        }
    }

    private String nextText() {
        int kind = random.nextInt(60);
        if (kind == 0 || calls == 0) {
            return broken(setup());
        }
        return kind < 6 ? broken(script()) : "";
    }

    private void enter(int run, String text) throws Exception {
        byte[] bytes = text.getBytes(StandardCharsets.ISO_8859_1);
        byte[] padded = Arrays.copyOf(bytes, (bytes.length + 19) / 20 * 20);
        same(run, "truncate", 0);
        for (int i = 0; i < padded.length; i += 20) {
            ByteBuffer part = ByteBuffer.wrap(padded, i, 20);
            same(run, "append", part.getInt(), part.getInt(), part.getInt(), part.getInt(), part.getInt());
        }
        same(run, "truncate", Math.min(bytes.length, 500));
        same(run, text.contains("b") && text.contains("u") ? "loadSetup" : "runScript");
        same(run, "errorCode");
        same(run, "errorPosition");
    }

    private void same(int run, String name, Integer... arguments) throws Exception {
        calls++;
        Object want = outcome(Oracle.class, other, name, arguments);
        Object got = outcome(HonestScales.class, mine, name, arguments);
        Check.due("run " + run + ", call " + calls + ": " + name + Arrays.toString(arguments), got, want);
    }

    private static Object outcome(Class<?> kind, Object on, String name, Integer[] arguments) throws Exception {
        Class<?>[] types = new Class<?>[arguments.length];
        Arrays.fill(types, int.class);
        try {
            Object answer = kind.getMethod(name, types).invoke(on, (Object[]) arguments);
            return answer == null ? "nothing" : answer;
        } catch (InvocationTargetException e) {
            return e.getCause().getClass();
        }
    }

    private Integer[] arguments(int count) {
        Integer[] made = new Integer[count];
        for (int i = 0; i < count; i++) {
            made[i] = i == 0 && random.nextInt(12) != 0 ? random.nextInt(9) : argument();
        }
        return made;
    }

    private int argument() {
        int[] edges = {-1, 0, 1, 2, 3, 4, 99, 100, 101, 200, 201, 500, 5000, 5001, Integer.MAX_VALUE, Integer.MIN_VALUE};
        return random.nextInt(2) == 0 ? random.nextInt(120) : edges[random.nextInt(edges.length)];
    }

    private String setup() {
        StringBuilder text = new StringBuilder("bureau " + upTo(50) + upTo(50) + upTo(99) + (1 + random.nextInt(99)) + " "
            + (1 + random.nextInt(50)) + " " + upTo(3) + upTo(65536) + ";weights");
        int weights = 1 + random.nextInt(7);
        for (int i = 0; i < weights; i++) {
            text.append(' ').append(1 + random.nextInt(random.nextBoolean() ? 5000 : 60));
        }
        text.append(';');
        int shops = 1 + random.nextInt(9);
        for (int i = 0; i < shops; i++) {
            text.append("shop ").append(upTo(9999)).append(near(500)).append(near(50)).append(near(5)).append(1 + random.nextInt(5000));
            text.append(' ').append(upTo(50)).append(upTo(100)).append(upTo(30)).append(random.nextBoolean() ? "; " : ";");
        }
        return text.toString();
    }

    private String upTo(int high) {
        int kind = random.nextInt(8);
        return (kind == 0 ? 0 : kind == 1 ? high : random.nextInt(high + 1)) + " ";
    }

    /** The offset, the slope and the drift are 0 in the middle, where scales are true. */
    private String near(int middle) {
        int wide = random.nextInt(2) == 0 ? middle : Math.max(1, middle / 25);
        return (middle + random.nextInt(2 * wide + 1) - wide) + " ";
    }

    private String script() {
        String[] verbs = {"days", "visit", "repair", "thumb", "complain", "open"};
        StringBuilder text = new StringBuilder();
        int commands = random.nextInt(random.nextInt(4) == 0 ? 23 : 7);
        for (int i = 0; i < commands; i++) {
            String verb = verbs[random.nextInt(verbs.length)];
            text.append(verb).append(random.nextBoolean() ? " " : "");
            text.append(verb.equals("days") ? 1 + random.nextInt(random.nextInt(4) == 0 ? 100 : 9) : random.nextInt(other.shopCount()));
            text.append(verb.equals("thumb") ? " " + random.nextInt(101) : "").append(';');
        }
        return text.toString();
    }

    /** Every third text has something wrong, or at least odd, at some place. */
    private String broken(String text) {
        if (random.nextInt(3) != 0 || text.isEmpty()) {
            return text;
        }
        int at = random.nextInt(text.length() + 1);
        String[] odd = {"", " ", "  ", ";", "0", "9", "00", "99999999999", "x", "shop", "days", "weights", "\0", "\u00ff", "-", "A"};
        String middle = odd[random.nextInt(odd.length)];
        int behind = Math.min(text.length(), at + random.nextInt(3));
        return random.nextInt(5) == 0 ? text.substring(0, at) : text.substring(0, at) + middle + text.substring(behind);
    }
}
