/** The edges of the argument that 37 promises share: the index of a shop. */
final class ShopArguments {
    static void test() {
        method(9, "visit", HonestScales::visit);
        method(10, "repair", HonestScales::repair);
        method(11, "setThumb", (x, shop) -> x.setThumb(shop, 1));
        method(12, "complain", HonestScales::complain);
        Check.each(ShopArguments::reopen);
        method(28, "offset", HonestScales::offset);
        method(29, "slope", HonestScales::slope);
        method(30, "drift", HonestScales::drift);
        method(31, "reading", (x, shop) -> x.reading(shop, 1));
        method(32, "excess", (x, shop) -> x.excess(shop, 1));
        method(33, "totalExcess", HonestScales::totalExcess);
        method(34, "isTrue", HonestScales::isTrue);
        method(35, "worstWeight", HonestScales::worstWeight);
        method(36, "stampedUntil", HonestScales::stampedUntil);
        method(37, "isStamped", HonestScales::isStamped);
        method(40, "isOpen", HonestScales::isOpen);
        method(41, "purse", HonestScales::purse);
        method(42, "thumb", HonestScales::thumb);
        method(43, "complaints", HonestScales::complaints);
        method(44, "failures", HonestScales::failures);
        method(45, "latestVisit", HonestScales::latestVisit);
        method(46, "finesOf", HonestScales::finesOf);
        method(47, "gainsOf", HonestScales::gainsOf);
        method(49, "usesThumb", HonestScales::usesThumb);
        method(50, "fineIfVisited", HonestScales::fineIfVisited);
        method(51, "whyFail", HonestScales::whyFail);
        method(52, "nextGain", HonestScales::nextGain);
        method(54, "daysUntilFalse", HonestScales::daysUntilFalse);
        method(55, "purseAfter", (x, shop) -> x.purseAfter(shop, 1));
        method(56, "bestThumb", (x, shop) -> x.bestThumb(shop, 1));
        method(58, "ounces", HonestScales::ounces);
        method(60, "daysUntilClosed", HonestScales::daysUntilClosed);
        method(64, "writeShop", HonestScales::writeShop);
        Check.each(ShopArguments::wrongShopsComeFirst);
    }

    private interface ShopMethod {
        Object call(HonestScales x, int shop);
    }

    private static void method(int promise, String name, ShopMethod method) {
        Check.each(() -> shopsThatExist(promise, name, method), () -> shopsThatDoNot(promise, name, method));
    }

    private static void shopsThatExist(int promise, String name, ShopMethod method) {
        Sentence.of(promise, "- `shop`: index of a shop");
        for (int count : new int[] {1, 8}) {
            HonestScales x = Make.quiet(different(count));
            taken(name, method, x, 0);
            taken(name, method, x, count - 1);
        }
    }

    private static void shopsThatDoNot(int promise, String name, ShopMethod method) {
        Sentence.of(promise, "Throws `IndexOutOfBoundsException` if the shop does not exist");
        for (int count : new int[] {1, 3, 8}) {
            HonestScales x = Make.quiet(different(count));
            Check.dueNoSuchShop(name + " of " + count, x, shop -> method.call(x, shop));
            Check.due("the setup is the only change", x.undo(), 0);
        }
        earlierShops(name, method);
    }

    /** Shops with coins enough for a repair. */
    private static String[] different(int count) {
        String[] shops = new String[count];
        for (int i = 0; i < count; i++) {
            shops[i] = (100 + i) + " " + (501 + i) + " 50 5 1 0 0 0";
        }
        return shops;
    }

    private static void taken(String name, ShopMethod method, HonestScales x, int shop) {
        try {
            Check.due(name + "(" + shop + ") answers", method.call(x, shop) != null, true);
        } catch (RuntimeException e) {
            Check.due(name + "(" + shop + ")", e.getClass(), "an answer");
        }
    }

    /** Seven of eight shops are gone with their setup, and come back with it. */
    private static void earlierShops(String name, ShopMethod method) {
        HonestScales x = Make.quiet(different(8));
        Check.feed(x, Make.text(Make.QUIET, "1", different(1)));
        x.loadSetup();
        for (int shop = 1; shop < 8; shop++) {
            int gone = shop;
            Check.dueThrow(name + "(" + shop + ") of an earlier setup", Check.INDEX, () -> method.call(x, gone));
        }
        x.undo();
        taken(name, method, x, 7);
    }

    private static void reopen() {
        Sentence.of(13, "- `shop`: index of a shop");
        Check.due("the only one", Make.closed(1, 0).reopen(0), 1);
        Check.due("the last one", Make.closed(8, 7).reopen(7), 8);
        Sentence.of(13, "Throws `IndexOutOfBoundsException` if the shop does not exist");
        for (int count : new int[] {1, 3, 8}) {
            HonestScales x = Make.closed(count, count - 1);
            Check.dueNoSuchShop("reopen of " + count, x, x::reopen);
        }
        HonestScales y = Make.closed(8, 7);
        Check.feed(y, Make.text(Make.QUIET, "1", Make.PLAIN));
        y.loadSetup();
        Check.dueThrow("one of an earlier setup", Check.INDEX, () -> y.reopen(7));
    }

    private static void wrongShopsComeFirst() {
        HonestScales x = new HonestScales();
        for (int wrong : new int[] {-1, 5001}) {
            Sentence.of(11, "Throws `IndexOutOfBoundsException` if the shop does not exist");
            Check.dueNoSuchShop("setThumb with " + wrong, x, shop -> x.setThumb(shop, wrong));
            Sentence.of(31, "Throws `IndexOutOfBoundsException` if the shop does not exist");
            Check.dueNoSuchShop("reading of " + wrong, x, shop -> x.reading(shop, wrong));
            Sentence.of(32, "Throws `IndexOutOfBoundsException` if the shop does not exist");
            Check.dueNoSuchShop("excess of " + wrong, x, shop -> x.excess(shop, wrong));
            Sentence.of(55, "Throws `IndexOutOfBoundsException` if the shop does not exist");
            Check.dueNoSuchShop("purseAfter " + wrong, x, shop -> x.purseAfter(shop, wrong));
            Sentence.of(56, "Throws `IndexOutOfBoundsException` if the shop does not exist");
            Check.dueNoSuchShop("bestThumb after " + wrong, x, shop -> x.bestThumb(shop, wrong));
        }
    }

    private ShopArguments() {
    }
}
