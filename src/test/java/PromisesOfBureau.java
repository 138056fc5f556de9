/** The edges of promises 19 to 27: what is asked about the bureau. */
final class PromisesOfBureau {
    static void test() {
        Check.each(
            PromisesOfBureau::day,
            PromisesOfBureau::weightCount,
            PromisesOfBureau::testWeight,
            PromisesOfBureau::bound,
            PromisesOfBureau::fee,
            PromisesOfBureau::inspectors,
            PromisesOfBureau::seed,
            PromisesOfBureau::bureauCoins,
            PromisesOfBureau::visits);
    }

    /** Puts an end to the days, the visits and the coins of an object. */
    private static void loadAnother(HonestScales x) {
        Check.feed(x, Make.text("0 0 1 1 1 0 0", "1", "0 501 50 5 1 0 0 0"));
        x.loadSetup();
    }

    private static void day() {
        Sentence.of(19, "Returns the day.");
        HonestScales x = new HonestScales();
        Check.due("a new object", x.day(), 0);
        x.passDays(1);
        Check.due("one day", x.day(), 1);
        x.undo();
        Check.due("undone", x.day(), 0);
        Sentence.of(19, "Returns the number of days that have passed since the setup.");
        Check.script(x, "days 100;days 100;");
        Check.due("two hundred", x.day(), 200);
        loadAnother(x);
        Check.due("after another setup", x.day(), 0);
        x.passDays(2);
        Check.due("since that setup", x.day(), 2);
    }

    private static void weightCount() {
        Sentence.of(20, "Returns the number of test weights.");
        StringBuilder weights = new StringBuilder();
        for (int count = 1; count <= 6; count++) {
            weights.append(' ').append(count);
            Check.due("with" + weights, Make.bureau(Make.QUIET, weights.toString(), Make.PLAIN).weightCount(), count);
        }
        Sentence.of(20, "Returns 1 to 6.");
        Check.due("the least", Make.bureau(Make.QUIET, "5000", Make.PLAIN).weightCount(), 1);
        Check.due("the greatest", Make.bureau(Make.QUIET, "5000 4999 1 2 3 4", Make.PLAIN).weightCount(), 6);
    }

    private static void testWeight() {
        Sentence.of(21, "Returns a test weight.");
        HonestScales six = Make.bureau(Make.QUIET, "5000 1 4999 2 4998 3", Make.PLAIN);
        Check.due("the first and the last", six.testWeight(0) + "/" + six.testWeight(5), "5000/3");
        Sentence.of(21, "- `weight`: index of a test weight, in the order of the setup");
        Check.due("not by size", six.testWeight(1) + "/" + six.testWeight(2) + "/" + six.testWeight(3) + "/" + six.testWeight(4), "1/4999/2/4998");
        Sentence.of(21, "Returns the grams.");
        HonestScales one = Make.bureau(Make.QUIET, "1", Make.PLAIN);
        HonestScales heavy = Make.bureau(Make.QUIET, "5000", Make.PLAIN);
        Check.due("the least and the greatest", one.testWeight(0) + "/" + heavy.testWeight(0), "1/5000");
        Sentence.of(21, "Throws `IndexOutOfBoundsException` if the test weight does not exist");
        for (int wrong : new int[] {-1, 1, 5, 6, Integer.MAX_VALUE, Integer.MIN_VALUE}) {
            Check.dueThrow("testWeight(" + wrong + ") of one", Check.INDEX, () -> one.testWeight(wrong));
        }
        Check.dueThrow("testWeight(6) of six", Check.INDEX, () -> six.testWeight(6));
        Check.dueThrow("testWeight(-1) of six", Check.INDEX, () -> six.testWeight(-1));
        loadAnother(six);
        for (int gone = 1; gone < 6; gone++) {
            int weight = gone;
            Check.dueThrow("testWeight(" + gone + ") of an earlier setup", Check.INDEX, () -> six.testWeight(weight));
        }
    }

    private static void bound() {
        Sentence.of(22, "Returns the bound for a weight.");
        HonestScales x = Make.bureau("0 50 0 1 1 0 0", "7", Make.PLAIN);
        Check.due("weights that are no test weights", x.bound(19) + "/" + x.bound(20) + "/" + x.bound(4999), "0/1/249");
        Sentence.of(22, "- `grams`: 1 to 5000");
        Check.due("1 and 5000", x.bound(1) + "/" + x.bound(5000), "0/250");
        Sentence.of(22, "Returns the bound in grams.");
        Check.due("the least", Make.bureau("0 0 0 1 1 0 0", "1", Make.PLAIN).bound(5000), 0);
        Check.due("the greatest", Make.bureau("50 50 0 1 1 0 0", "1", Make.PLAIN).bound(5000), 300);
        Sentence.of(22, "Throws `IllegalArgumentException` if grams is out of range");
        for (int wrong : new int[] {0, -1, 5001, Integer.MAX_VALUE, Integer.MIN_VALUE}) {
            Check.dueThrow("bound(" + wrong + ")", Check.ARGUMENT, () -> x.bound(wrong));
        }
    }

    private static void fee() {
        Sentence.of(23, "Returns the fee.");
        HonestScales x = new HonestScales();
        Check.due("a new object", x.fee(), 4);
        x.setFee(5);
        Check.due("after setFee", x.fee(), 5);
        x.undo();
        Check.due("undone", x.fee(), 4);
        Sentence.of(23, "Returns 0 to 99.");
        Check.due("the least", Make.bureau("0 0 0 1 1 0 0", "1", Make.PLAIN).fee(), 0);
        Check.due("the greatest", Make.bureau("0 0 99 1 1 0 0", "1", Make.PLAIN).fee(), 99);
    }

    private static void inspectors() {
        Sentence.of(24, "Returns the number of inspectors.");
        HonestScales x = new HonestScales();
        Check.due("a new object", x.inspectors(), 1);
        x.setInspectors(2);
        Check.due("after setInspectors", x.inspectors(), 2);
        x.undo();
        Check.due("undone", x.inspectors(), 1);
        Sentence.of(24, "Returns 0 to 3.");
        Check.due("the least", Make.bureau("0 0 0 1 1 0 0", "1", Make.PLAIN).inspectors(), 0);
        Check.due("the greatest", Make.bureau("0 0 0 1 1 3 0", "1", Make.PLAIN).inspectors(), 3);
    }

    private static void seed() {
        Sentence.of(25, "Returns the seed.");
        HonestScales x = Make.bureau("0 0 0 99 1 1 7", "1", Make.PLAIN);
        Check.due("before the first day", x.seed(), 7);
        x.nextVisited();
        Check.due("after a question", x.seed(), 7);
        x.passDays(1);
        Check.due("after a day", x.seed(), 599);
        x.undo();
        Check.due("undone", x.seed(), 7);
        x.visit(0);
        Check.due("after a visit by hand", x.seed(), 7);
        Sentence.of(25, "Returns 0 to 65536.");
        Check.due("the least", Make.bureau("0 0 0 1 1 0 0", "1", Make.PLAIN).seed(), 0);
        HonestScales most = Make.bureau("0 0 0 1 1 1 65536", "1", Make.PLAIN);
        Check.due("the greatest", most.seed(), 65536);
        most.passDays(1);
        Check.due("it stays the greatest", most.seed(), 65536);
        HonestScales least = Make.bureau("0 0 0 1 1 1 45438", "1", Make.PLAIN);
        least.passDays(1);
        Check.due("it becomes the least", least.seed(), 0);
        least.passDays(1);
        Check.due("and goes on", least.seed(), 74);
    }

    private static void bureauCoins() {
        Sentence.of(26, "Returns the coins of the bureau.");
        HonestScales x = Make.quiet("99 501 50 5 1 0 0 0", Make.PLAIN);
        Check.due("none", x.bureauCoins(), 0);
        x.visit(1);
        Check.due("a visit without a fine", x.bureauCoins(), 0);
        x.visit(0);
        Check.due("a fine", x.bureauCoins(), 1);
        x.repair(0);
        Check.due("a repair", x.bureauCoins(), 11);
        x.undo();
        Check.due("undone", x.bureauCoins(), 1);
        Sentence.of(26, "Returns the coins since the setup.");
        x.passDays(9);
        x.visit(1);
        Check.due("a fine that a purse did not have", x.bureauCoins() + "/" + x.purse(1), "6/-5");
        loadAnother(x);
        Check.due("after another setup", x.bureauCoins(), 0);
        x.visit(0);
        Check.due("since that setup", x.bureauCoins(), 1);
    }

    private static void visits() {
        Sentence.of(27, "Returns the number of visits.");
        HonestScales x = Make.bureau("0 0 1 99 1 3 0", "1", "99 500 50 5 1 0 0 0", Make.PLAIN);
        Check.due("none", x.visits(), 0);
        x.passDays(1);
        Check.due("two shops, three inspectors", x.visits(), 2);
        Sentence.of(27, "Returns the number of visits of inspectors and by visit since the setup.");
        x.visit(0);
        Check.due("by hand, on the same day", x.visits(), 3);
        Check.script(x, "visit 0;visit 1;days 2;");
        Check.due("by a script", x.visits(), 9);
        x.repair(0);
        Check.due("a repair is no visit", x.visits(), 9);
        loadAnother(x);
        Check.due("after another setup", x.visits(), 0);
        x.visit(0);
        Check.due("since that setup", x.visits(), 1);
    }

    private PromisesOfBureau() {
    }
}
