/** Promises 28 to 37: what the scales are like. */
public final class ScalesTest {
    public static void main(String[] args) {
        offsetSlopeDrift();
        readings();
        excesses();
        totals();
        worstWeights();
        stamps();
        Check.end();
    }

    private static HonestScales scales(String bureau, String weights, String... scales) {
        StringBuilder text = new StringBuilder("bureau " + bureau + " 1 9 1 0 0;weights " + weights + ";");
        for (String scale : scales) {
            text.append("shop 0 ").append(scale).append(" 5 1 0 0 0;");
        }
        return Check.setup(text.toString());
    }

    private static void offsetSlopeDrift() {
        HonestScales x = Check.setup("bureau 0 0 1 9 1 0 0;weights 1;shop 0 0 100 3 1 0 0 0;shop 0 1000 0 7 1 0 0 0;shop 0 499 51 10 1 0 0 0;");
        Check.due("offsets", x.offset(0) + "/" + x.offset(1) + "/" + x.offset(2), "-500/500/-1");
        Check.due("slopes", x.slope(0) + "/" + x.slope(1) + "/" + x.slope(2), "50/-50/1");
        Check.due("drifts", x.drift(0) + "/" + x.drift(1) + "/" + x.drift(2), "-2/2/5");
        x.passDays(3);
        Check.due("offsets", x.offset(0) + "/" + x.offset(1) + "/" + x.offset(2), "-500/500/14");
        Check.due("slopes", x.slope(0) + "/" + x.slope(1) + "/" + x.slope(2), "50/-50/1");
        Check.dueNoSuchShop("offset", x, x::offset);
        Check.dueNoSuchShop("slope", x, x::slope);
        Check.dueNoSuchShop("drift", x, x::drift);
        closedShopsDriftToo();
    }

    private static void closedShopsDriftToo() {
        HonestScales x = Check.setup("bureau 0 0 1 1 1 0 0;weights 1;shop 0 500 50 7 1 0 0 0;");
        Check.script(x, "days 5;visit 0;days 5;visit 0;days 5;visit 0;");
        Check.due("closed", x.isOpen(0), false);
        x.passDays(4);
        Check.due("offset", x.offset(0), 8);
    }

    private static void readings() {
        HonestScales x = scales("0 0", "1", "510 57", "510 43", "0 0");
        Check.due("reading(0, 1)", x.reading(0, 1), 11);
        Check.due("reading(0, 142)", x.reading(0, 142), 152);
        Check.due("reading(0, 143)", x.reading(0, 143), 154);
        Check.due("reading(1, 142)", x.reading(1, 142), 152);
        Check.due("reading(1, 143)", x.reading(1, 143), 152);
        Check.due("reading(0, 5000)", x.reading(0, 5000), 5045);
        Check.due("reading(2, 1)", x.reading(2, 1), -499);
        Check.due("reading(2, 5000)", x.reading(2, 5000), 4250);
        x.setThumb(0, 50);
        Check.due("without the thumb", x.reading(0, 1), 11);
        gramsAreChecked("reading", x, x::reading);
    }

    interface GramsCall {
        Object run(int shop, int grams);
    }

    private static void gramsAreChecked(String what, HonestScales x, GramsCall call) {
        for (int grams : new int[] {0, -1, 5001, Integer.MAX_VALUE, Integer.MIN_VALUE}) {
            Check.dueThrow(what + "(0, " + grams + ")", Check.ARGUMENT, () -> call.run(0, grams));
            Check.dueNoSuchShop(what + " of " + grams, x, shop -> call.run(shop, grams));
        }
        Check.dueNoSuchShop(what, x, shop -> call.run(shop, 1));
    }

    private static void excesses() {
        HonestScales x = scales("10 10", "1", "520 50", "480 50", "500 70", "490 30");
        Check.due("excess(0, 1)", x.excess(0, 1), 10);
        Check.due("excess(0, 999)", x.excess(0, 999), 1);
        Check.due("excess(0, 900)", x.excess(0, 900), 1);
        Check.due("excess(0, 899)", x.excess(0, 899), 2);
        Check.due("excess(0, 1000)", x.excess(0, 1000), 0);
        Check.due("excess(0, 5000)", x.excess(0, 5000), 0);
        Check.due("excess(1, 100)", x.excess(1, 100), 9);
        Check.due("excess(2, 1000)", x.excess(2, 1000), 0);
        Check.due("excess(2, 1050)", x.excess(2, 1050), 1);
        Check.due("excess(2, 5000)", x.excess(2, 5000), 40);
        Check.due("excess(3, 5000)", x.excess(3, 5000), 50);
        gramsAreChecked("excess", x, x::excess);
    }

    private static void totals() {
        HonestScales x = scales("10 0", "1 1000 5000", "511 50", "510 50", "490 50", "500 52", "500 53", "500 47", "530 40");
        int[] due = {3, 0, 0, 0, 5, 5, 20 + 10 + 10};
        for (int shop = 0; shop < due.length; shop++) {
            Check.due("totalExcess(" + shop + ")", x.totalExcess(shop), due[shop]);
            Check.due("isTrue(" + shop + ")", x.isTrue(shop), due[shop] == 0);
        }
        Check.dueNoSuchShop("totalExcess", x, x::totalExcess);
        Check.dueNoSuchShop("isTrue", x, x::isTrue);
    }

    private static void worstWeights() {
        HonestScales x = scales("10 0", "1000 1 5000 2 4999", "500 50", "600 50", "500 70", "530 40", "500 30", "560 40");
        int[] due = {0, 0, 2, 1, 2, 1};
        for (int shop = 0; shop < due.length; shop++) {
            Check.due("worstWeight(" + shop + ")", x.worstWeight(shop), due[shop]);
        }
        HonestScales y = scales("10 0", "1 2 3 4 5000 4999", "500 100", "500 0", "561 1");
        Check.due("worstWeight(0)", y.worstWeight(0), 4);
        Check.due("worstWeight(1)", y.worstWeight(1), 4);
        Check.due("worstWeight(2)", y.worstWeight(2), 4);
        HonestScales z = scales("10 0", "4999 5000", "500 60", "500 59");
        Check.due("worstWeight(0)", z.worstWeight(0), 1);
        Check.due("the last of 1", scales("10 0", "7", "500 60").worstWeight(0), 0);
        Check.dueNoSuchShop("worstWeight", x, x::worstWeight);
    }

    private static void stamps() {
        HonestScales x = scales("10 0", "1", "500 50", "500 50");
        Check.due("stampedUntil", x.stampedUntil(0), 0);
        Check.due("isStamped", x.isStamped(0), true);
        x.passDays(1);
        Check.due("isStamped", x.isStamped(0), false);
        x.visit(0);
        Check.due("stampedUntil", x.stampedUntil(0) + "/" + x.stampedUntil(1), "10/0");
        x.passDays(9);
        Check.due("isStamped on day 10", x.isStamped(0), true);
        x.passDays(1);
        Check.due("isStamped on day 11", x.isStamped(0), false);
        Check.due("stampedUntil", x.stampedUntil(0), 10);
        Check.dueNoSuchShop("stampedUntil", x, x::stampedUntil);
        Check.dueNoSuchShop("isStamped", x, x::isStamped);
    }
}
