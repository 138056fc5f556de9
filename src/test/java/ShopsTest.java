/** Promises 38 to 48: what the shops have. */
public final class ShopsTest {
    private static final String SHOP = "shop 5 500 50 5 1 0 0 0;";

    public static void main(String[] args) {
        counts();
        openOnes();
        numbersOfAShop();
        ranks();
        shopsThatDoNotExist();
        Check.end();
    }

    private static void counts() {
        String head = "bureau 0 0 1 1 1 0 0;weights 1;";
        Check.due("one shop", Check.setup(head + SHOP).shopCount(), 1);
        Check.due("eight shops", Check.setup(head + SHOP.repeat(8)).shopCount(), 8);
        Check.due("eight open shops", Check.setup(head + SHOP.repeat(8)).openShops(), 8);
    }

    private static HonestScales closing(int shop, int shops) {
        HonestScales x = Check.setup("bureau 0 0 1 1 1 0 0;weights 1;" + SHOP.repeat(shops));
        String fail = "days 2;visit " + shop + ";";
        Check.script(x, fail + fail + fail);
        return x;
    }

    private static void openOnes() {
        HonestScales x = closing(1, 3);
        Check.due("openShops", x.openShops(), 2);
        Check.due("shopCount", x.shopCount(), 3);
        Check.due("isOpen", x.isOpen(0) + "/" + x.isOpen(1) + "/" + x.isOpen(2), "true/false/true");
        x.reopen(1);
        Check.due("isOpen", x.isOpen(1), true);
        Check.due("openShops", closing(0, 1).openShops(), 0);
    }

    private static void numbersOfAShop() {
        HonestScales x = Check.setup("bureau 0 0 3 2 10 0 0;weights 1;shop 8 540 50 5 20 5 33 9;" + SHOP);
        Check.due("purse", x.purse(0) + "/" + x.purse(1), "8/5");
        Check.due("thumb", x.thumb(0) + "/" + x.thumb(1), "33/0");
        Check.due("latestVisit", x.latestVisit(0), HonestScales.NONE);
        x.passDays(4);
        // A gain of 5 * 73 * 10 / 1000 = 3 a day.
        Check.due("gainsOf", x.gainsOf(0) + "/" + x.gainsOf(1), "12/0");
        Check.due("purse", x.purse(0), 20);
        Check.due("complaints", x.complaints(0) + "/" + x.complaints(1), "4/0");
        x.visit(0);
        // Two ounces for 40 grams, and five fees for the stamp.
        Check.due("finesOf", x.finesOf(0) + "/" + x.finesOf(1), "21/0");
        Check.due("purse", x.purse(0), -1);
        Check.due("failures", x.failures(0) + "/" + x.failures(1), "1/0");
        Check.due("latestVisit", x.latestVisit(0) + "/" + x.latestVisit(1), "4/-1");
        Check.due("complaints", x.complaints(0), 0);
        x.passDays(3);
        x.visit(0);
        Check.due("finesOf", x.finesOf(0), 36);
        Check.due("failures", x.failures(0), 2);
        Check.due("gainsOf", x.gainsOf(0), 12);
        negativeGains();
    }

    private static void negativeGains() {
        HonestScales x = Check.setup("bureau 0 0 3 2 10 0 0;weights 1;shop 1 460 50 5 20 5 0 0;");
        x.passDays(2);
        Check.due("gainsOf", x.gainsOf(0), -4);
        Check.due("purse", x.purse(0), -3);
        Check.due("complaints", x.complaints(0), 0);
        x.visit(0);
        Check.due("gains stay", x.gainsOf(0), -4);
    }

    private static void ranks() {
        HonestScales x = Check.setup("bureau 0 0 1 9 1 0 0;weights 1;" + SHOP.repeat(5));
        for (int rank = 0; rank < 5; rank++) {
            Check.due("shopAtRank(" + rank + ")", x.shopAtRank(rank), rank);
        }
        Check.script(x, "complain 3;complain 3;complain 1;complain 4;");
        int[] due = {3, 1, 4, 0, 2};
        for (int rank = 0; rank < 5; rank++) {
            Check.due("shopAtRank(" + rank + ")", x.shopAtRank(rank), due[rank]);
        }
        for (int wrong : new int[] {-1, 5, 8, Integer.MAX_VALUE, Integer.MIN_VALUE}) {
            Check.due("shopAtRank(" + wrong + ")", x.shopAtRank(wrong), HonestScales.NONE);
        }
        x.visit(3);
        Check.due("after a visit", x.shopAtRank(3), 2);
        HonestScales y = closing(0, 2);
        y.complain(1);
        Check.due("closed shops have a rank", y.shopAtRank(0) + "/" + y.shopAtRank(1), "1/0");
    }

    private static void shopsThatDoNotExist() {
        HonestScales x = new HonestScales();
        Check.dueNoSuchShop("isOpen", x, x::isOpen);
        Check.dueNoSuchShop("purse", x, x::purse);
        Check.dueNoSuchShop("thumb", x, x::thumb);
        Check.dueNoSuchShop("complaints", x, x::complaints);
        Check.dueNoSuchShop("failures", x, x::failures);
        Check.dueNoSuchShop("latestVisit", x, x::latestVisit);
        Check.dueNoSuchShop("finesOf", x, x::finesOf);
        Check.dueNoSuchShop("gainsOf", x, x::gainsOf);
    }
}
