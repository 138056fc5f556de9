/** The edges of promises 38 to 48: what is asked about the shops. ShopArguments has those of the argument. */
final class PromisesOfShops {
    static void test() {
        Check.each(
            PromisesOfShops::shopCount,
            PromisesOfShops::openShops,
            PromisesOfShops::isOpen,
            PromisesOfShops::purse,
            PromisesOfShops::thumb,
            PromisesOfShops::complaints,
            PromisesOfShops::failures,
            PromisesOfShops::latestVisit,
            PromisesOfShops::finesOf,
            PromisesOfShops::gainsOf,
            PromisesOfShops::shopAtRank,
            PromisesOfShops::shopAtNoRank);
    }

    private static void shopCount() {
        Sentence.of(38, "Returns the number of shops.");
        for (int count = 1; count <= 8; count++) {
            Check.due("shopCount", Make.quiet(Make.plain(count)).shopCount(), count);
        }
        Sentence.of(38, "Returns 1 to 8.");
        Check.due("closed shops count", Make.closed(1, 0).shopCount() + "/" + Make.closed(8, 3).shopCount(), "1/8");
    }

    private static void openShops() {
        Sentence.of(39, "Returns the number of open shops.");
        HonestScales x = Make.quiet(Make.plain(3));
        Check.due("all", x.openShops(), 3);
        for (int left = 2; left >= 0; left--) {
            Make.close(x, left);
            Check.due("openShops", x.openShops(), left);
        }
        Sentence.of(39, "Returns the number of shops.");
        Check.due("none of them", x.openShops() + "/" + x.shopCount(), "0/3");
        x.reopen(1);
        Check.due("one again", x.openShops(), 1);
        Check.due("all of eight", Make.quiet(Make.plain(8)).openShops(), 8);
    }

    private static void isOpen() {
        Sentence.of(40, "Tells whether a shop is open.");
        HonestScales x = Make.closed(8, 7);
        Check.due("the last one is closed", x.isOpen(6) + "/" + x.isOpen(7), "true/false");
        Sentence.of(40, "Returns true if it is open.");
        x.reopen(7);
        Check.due("opened again", x.isOpen(7), true);
        x.undo();
        Check.due("undone", x.isOpen(7), false);
        HonestScales y = Make.quiet(Make.PLAIN);
        Check.script(y, "days 2;visit 0;days 2;visit 0;");
        Check.due("two failures", y.isOpen(0), true);
    }

    private static void purse() {
        Sentence.of(41, "Returns the purse of a shop.");
        HonestScales x = Make.quiet("9999 500 50 5 1 0 0 0", "0 500 50 5 1 0 0 0");
        Check.due("the greatest and the least of a setup", x.purse(0) + "/" + x.purse(1), "9999/0");
        Sentence.of(41, "Returns the coins, possibly negative.");
        x.passDays(1);
        x.visit(1);
        Check.due("after a fine", x.purse(0) + "/" + x.purse(1), "9999/-5");
        HonestScales y = Make.bureau("0 0 1 1 50 0 0", "1", "0 0 0 5 5000 50 0 0", "9999 1000 100 5 5000 50 100 0");
        y.passDays(100);
        Check.due("a hundred losses and gains", y.purse(0) + "/" + y.purse(1), "-187500/222499");
    }

    private static void thumb() {
        Sentence.of(42, "Returns the thumb of a shop.");
        HonestScales x = Make.quiet("0 500 50 5 1 0 7 0", "0 500 50 5 1 0 8 0");
        x.setThumb(1, 9);
        Check.due("thumbs", x.thumb(0) + "/" + x.thumb(1), "7/9");
        x.undo();
        Check.due("undone", x.thumb(1), 8);
        Sentence.of(42, "Returns 0 to 100 grams.");
        HonestScales y = Make.quiet("0 500 50 5 1 0 0 0", "0 500 50 5 1 0 100 0");
        Check.due("the least and the greatest", y.thumb(0) + "/" + y.thumb(1), "0/100");
    }

    private static void complaints() {
        Sentence.of(43, "Returns the number of complaints about a shop.");
        HonestScales x = Make.bureau("0 0 1 1 1 0 0", "1", "0 500 50 5 20 1 2 0", "0 500 50 5 20 1 1 0");
        x.passDays(5);
        Check.due("of five days", x.complaints(0) + "/" + x.complaints(1), "5/0");
        x.complain(0);
        Check.due("and one by hand", x.complaints(0), 6);
        Sentence.of(43, "Returns the number of complaints since the latest visit.");
        x.visit(0);
        Check.due("visited", x.complaints(0), 0);
        x.passDays(1);
        Check.due("since then", x.complaints(0), 1);
        x.setInspectors(1);
        x.passDays(1);
        Check.due("visited by an inspector", x.complaints(0), 0);
    }

    private static void failures() {
        Sentence.of(44, "Returns the number of failures of a shop.");
        HonestScales x = Make.quiet(Make.plain(2));
        Check.script(x, "visit 0;days 2;visit 0;visit 0;days 2;visit 0;");
        Check.due("two of four visits", x.failures(0) + "/" + x.failures(1), "2/0");
        Sentence.of(44, "Returns the number of failures since the setup or the latest reopening.");
        Check.script(x, "days 2;visit 0;");
        Check.due("three", x.failures(0), 3);
        x.reopen(0);
        Check.due("reopened", x.failures(0), 0);
        Check.script(x, "days 2;visit 0;");
        Check.due("since then", x.failures(0), 1);
        Check.feed(x, Make.text(Make.QUIET, "1", Make.PLAIN));
        x.loadSetup();
        Check.due("another setup", x.failures(0), 0);
    }

    private static void latestVisit() {
        Sentence.of(45, "Returns the day;");
        HonestScales x = Make.quiet(Make.plain(3));
        x.visit(0);
        x.passDays(3);
        x.visit(1);
        Check.due("day 0 and day 3", x.latestVisit(0) + "/" + x.latestVisit(1), "0/3");
        Sentence.of(45, "Returns the day of the latest visit of a shop.");
        x.passDays(97);
        x.visit(1);
        Check.due("the latest one", x.latestVisit(1), 100);
        Sentence.of(45, "NONE if it was never visited.");
        Check.due("a hundred days without a visit", x.latestVisit(2), HonestScales.NONE);
        x.undo();
        x.undo();
        x.undo();
        Check.due("a visit that was undone", x.latestVisit(1), HonestScales.NONE);
        HonestScales y = Make.quiet("99 501 50 5 1 0 0 0");
        y.repair(0);
        Check.due("a repair is no visit", y.latestVisit(0), HonestScales.NONE);
    }

    private static void finesOf() {
        Sentence.of(46, "Returns the fines of a shop.");
        HonestScales x = Make.quiet("99 529 50 5 1 0 0 0", Make.PLAIN);
        x.visit(0);
        x.visit(1);
        Check.due("two ounces, and none", x.finesOf(0) + "/" + x.finesOf(1), "2/0");
        Sentence.of(46, "Returns the coins that it has paid as fines since the setup.");
        x.repair(0);
        Check.due("a repair is no fine", x.finesOf(0), 2);
        Check.script(x, "days 2;visit 0;days 2;visit 0;");
        Check.due("two stamps more", x.finesOf(0) + "/" + x.isOpen(0), "12/false");
        x.reopen(0);
        Check.due("reopened", x.finesOf(0), 12);
        Check.feed(x, Make.text(Make.QUIET, "1", Make.PLAIN));
        x.loadSetup();
        Check.due("another setup", x.finesOf(0), 0);
    }

    private static void gainsOf() {
        Sentence.of(47, "Returns the gains of a shop.");
        HonestScales x = Make.bureau("0 0 1 1 50 0 0", "1", "0 500 50 5 1000 20 7 0", "0 500 50 5 1000 0 7 0");
        x.passDays(3);
        Check.due("three days, and no sales", x.gainsOf(0) + "/" + x.gainsOf(1), "21/0");
        x.visit(0);
        x.repair(0);
        Check.due("fines and repairs are no gains", x.gainsOf(0), 21);
        Sentence.of(47, "Returns the sum of the gains of all days since the setup, possibly negative.");
        HonestScales y = Make.bureau("0 0 1 1 50 0 0", "1", "0 510 50 0 1000 20 0 0");
        y.passDays(1);
        Check.due("a gain", y.gainsOf(0), 5);
        y.passDays(1);
        Check.due("none", y.gainsOf(0), 5);
        y.passDays(2);
        Check.due("losses", y.gainsOf(0), -10);
        Check.feed(y, Make.text(Make.QUIET, "1", Make.PLAIN));
        y.loadSetup();
        Check.due("another setup", y.gainsOf(0), 0);
    }

    private static void shopAtRank() {
        Sentence.of(48, "Returns a shop by the order of complaints.");
        ranksDue("", "01234567");
        ranksDue("complain 7;", "70123456");
        Sentence.of(48, "- `rank`: 0 for the shop with the most complaints");
        ranksDue("complain 3;complain 3;complain 1;", "31024567");
        Check.due("the only shop", Make.quiet(Make.PLAIN).shopAtRank(0), 0);
        Sentence.of(48, "Returns index of a shop: the shops are ordered by complaints, the most first, then by index;");
        ranksDue("complain 6;complain 2;complain 4;", "24601357");
        ranksDue("complain 0;complain 1;complain 2;complain 3;complain 4;complain 5;complain 6;complain 7;", "01234567");
        ranksDue("complain 7;complain 7;complain 5;complain 5;complain 0;visit 7;", "50123467");
        HonestScales closed = Make.closed(2, 0);
        Check.due("closed shops have a rank", closed.shopAtRank(0) + "/" + closed.shopAtRank(1), "0/1");
    }

    private static void ranksDue(String complaints, String due) {
        HonestScales x = Make.quiet(Make.plain(8));
        Check.script(x, complaints);
        StringBuilder found = new StringBuilder();
        for (int rank = 0; rank < 8; rank++) {
            found.append(x.shopAtRank(rank));
        }
        Check.due("the ranks after '" + complaints + "'", found.toString(), due);
    }

    private static void shopAtNoRank() {
        Sentence.of(48, "NONE if rank is negative or not less than the number of shops.");
        for (int count : new int[] {1, 3, 8}) {
            HonestScales x = Make.quiet(Make.plain(count));
            Check.due("the last rank of " + count, x.shopAtRank(count - 1), count - 1);
            for (int wrong : new int[] {-1, count, count + 1, Integer.MAX_VALUE, Integer.MIN_VALUE}) {
                Check.due("shopAtRank(" + wrong + ") of " + count, x.shopAtRank(wrong), HonestScales.NONE);
            }
        }
    }

    private PromisesOfShops() {
    }
}
