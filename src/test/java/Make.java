import java.util.Arrays;

/** Makes the bureaus on which the edges are tested. */
final class Make {
    /** No coins, a straight scale without a drift, no sales, no thumb, no caution. */
    static final String PLAIN = "0 500 50 5 1 0 0 0";
    /** No bound, a fee of 1, stamps of one day, no inspectors. */
    static final String QUIET = "0 0 1 1 1 0 0";

    static String text(String bureau, String weights, String... shops) {
        StringBuilder text = new StringBuilder("bureau " + bureau + ";weights " + weights + ";");
        for (String shop : shops) {
            text.append("shop ").append(shop).append(';');
        }
        return text.toString();
    }

    static HonestScales bureau(String bureau, String weights, String... shops) {
        return Check.setup(text(bureau, weights, shops));
    }

    static HonestScales quiet(String... shops) {
        return bureau(QUIET, "1", shops);
    }

    static String[] plain(int count) {
        String[] shops = new String[count];
        Arrays.fill(shops, PLAIN);
        return shops;
    }

    /** A quiet bureau with plain shops, of which one is closed. */
    static HonestScales closed(int count, int shop) {
        HonestScales x = quiet(plain(count));
        close(x, shop);
        return x;
    }

    /** Lets six days pass; needs a bureau with stamps of one day and without inspectors. */
    static void close(HonestScales x, int shop) {
        String fail = "days 2;visit " + shop + ";";
        Check.script(x, fail + fail + fail);
        if (x.isOpen(shop)) {
            throw new IllegalStateException("the test could not close shop " + shop);
        }
    }

    private Make() {
    }
}
