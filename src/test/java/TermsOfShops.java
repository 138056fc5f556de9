/** The edges in "Terms" of shops, thumbs, sales and visits. */
final class TermsOfShops {
    /** With a price of 50, this one gains a coin for each gram of its thumb. */
    private static final String SELLER = "0 500 50 5 1000 20 7 ";

    static void test() {
        Check.each(
            TermsOfShops::rangesOfAShop,
            TermsOfShops::numbersOfAShop,
            TermsOfShops::openOrClosed,
            TermsOfShops::atTheBeginning,
            TermsOfShops::lastDayOfTheStamp,
            TermsOfShops::cautionOfAThumb,
            TermsOfShops::salesOfOpenShops,
            TermsOfShops::falseGrams,
            TermsOfShops::gainOfTheDay,
            TermsOfShops::negativeGain,
            TermsOfShops::complaintsBySales,
            TermsOfShops::visitSetsDayAndComplaints,
            TermsOfShops::reasonsToFail,
            TermsOfShops::fines,
            TermsOfShops::ounces,
            TermsOfShops::afterTheFine,
            TermsOfShops::thirdFailure);
    }

    private static void rangesOfAShop() {
        Sentence.of(Sentence.TERMS, "A shop has a purse of coins, which may become negative, a portion of 1 to 5000 grams, a number of 0 to 50 sales per day, a thumb of 0 to 100 grams, and a caution of 0 to 30 days.");
        HonestScales x = Texts.taken(Make.text("0 0 1 1 50 0 0", "1", "0 500 50 5 1 0 0 0", "9999 1000 100 5 5000 50 100 30"));
        Check.due("the least", x.purse(0) + "/" + x.nextGain(0) + "/" + x.thumb(0), "0/0/0");
        // 50 sales of 500 + 250 + 100 false grams.
        Check.due("the greatest", x.purse(1) + "/" + x.nextGain(1) + "/" + x.thumb(1), "9999/2125/100");
        x.passDays(1);
        x.visit(0);
        Check.due("a purse that was empty", x.purse(0), -5);
        Texts.shopNumberRefused("0 500 50 5 ", "0", " 0 0 0");
        Texts.shopNumberRefused("0 500 50 5 ", "5001", " 0 0 0");
        Texts.shopNumberRefused("0 500 50 5 1 ", "51", " 0 0");
        Texts.shopNumberRefused("0 500 50 5 1 0 ", "101", " 0");
        Texts.shopNumberRefused("0 500 50 5 1 0 0 ", "31", "");
    }

    private static void numbersOfAShop() {
        Sentence.of(Sentence.TERMS, "It also has a number of complaints, a number of failures, a day of the latest visit, and a last day of its stamp.");
        HonestScales x = Make.quiet(Make.plain(8));
        x.passDays(3);
        x.complain(7);
        x.visit(0);
        for (int shop = 0; shop < 8; shop++) {
            String due = shop == 0 ? "0/1/3/4" : shop == 7 ? "1/0/-1/0" : "0/0/-1/0";
            Check.due("shop " + shop, x.complaints(shop) + "/" + x.failures(shop) + "/" + x.latestVisit(shop) + "/" + x.stampedUntil(shop), due);
        }
    }

    private static void openOrClosed() {
        Sentence.of(Sentence.TERMS, "It is open or closed.");
        HonestScales x = Make.closed(2, 1);
        Check.due("open", x.isOpen(0) + "/" + x.isOpen(1), "true/false");
        x.reopen(1);
        Check.due("open", x.isOpen(1), true);
    }

    private static void atTheBeginning() {
        Sentence.of(Sentence.TERMS, "At the beginning, a shop is open, it was never visited, it has no complaints and no failures, and the last day of its stamp is 0.");
        for (HonestScales x : new HonestScales[] {new HonestScales(), Make.quiet(Make.plain(8)), Make.quiet("9999 0 0 0 5000 50 100 30")}) {
            for (int shop = 0; shop < x.shopCount(); shop++) {
                Check.due("isOpen", x.isOpen(shop), true);
                Check.due("latestVisit", x.latestVisit(shop), HonestScales.NONE);
                Check.due("complaints and failures", x.complaints(shop) + "/" + x.failures(shop), "0/0");
                Check.due("stampedUntil", x.stampedUntil(shop), 0);
            }
        }
        HonestScales again = Make.closed(1, 0);
        again.reopen(0);
        Check.script(again, "days 2;visit 0;complain 0;");
        // A question about the days to come must leave nothing of them to the next setup.
        again.purseAfter(0, 3);
        Check.feed(again, Make.text(Make.QUIET, "1", Make.PLAIN));
        again.loadSetup();
        Check.due("after another setup", again.isOpen(0) + "/" + again.latestVisit(0) + "/" + again.complaints(0) + "/" + again.failures(0)
            + "/" + again.stampedUntil(0), "true/-1/0/0/0");
    }

    private static void lastDayOfTheStamp() {
        Sentence.of(Sentence.TERMS, "The stamp is valid if the present day is not later than the last day of the stamp.");
        HonestScales x = Make.bureau("0 0 1 3 1 0 0", "1", Make.PLAIN);
        Check.due("day 0, stamped until 0", x.isStamped(0), true);
        x.passDays(1);
        Check.due("day 1", x.isStamped(0), false);
        x.visit(0);
        x.passDays(2);
        Check.due("day 3, stamped until 4", x.isStamped(0), true);
        x.passDays(1);
        Check.due("day 4", x.isStamped(0), true);
        x.passDays(1);
        Check.due("day 5", x.isStamped(0), false);
    }

    private static void cautionOfAThumb() {
        Sentence.of(Sentence.TERMS, "On a day, a shop uses its thumb if it was never visited, or if the day minus the day of the latest visit is greater than the caution.");
        for (int caution : new int[] {0, 1, 29, 30}) {
            HonestScales x = Make.bureau("0 0 1 99 50 0 0", "1", SELLER + caution);
            x.passDays(1);
            Check.due("never visited, a caution of " + caution, x.gainsOf(0), 7);
            x.visit(0);
            if (caution > 0) {
                x.passDays(caution);
            }
            Check.due("not later than a caution of " + caution, x.gainsOf(0), 7);
            x.passDays(1);
            Check.due("later than a caution of " + caution, x.gainsOf(0), 14);
            x.passDays(3);
            Check.due("and from then on", x.gainsOf(0), 35);
        }
        HonestScales y = Make.bureau("0 0 1 99 50 0 0", "1", SELLER + 1);
        y.visit(0);
        y.passDays(1);
        Check.due("visited on day 0, which is not never", y.gainsOf(0), 0);
        y.passDays(1);
        Check.due("day 2", y.gainsOf(0), 7);
    }

    private static void salesOfOpenShops() {
        Sentence.of(Sentence.TERMS, "On a day, each open shop makes its sales.");
        HonestScales x = Make.bureau("0 0 1 1 50 0 0", "1", SELLER + 0, SELLER + 0, SELLER + 0);
        Make.close(x, 1);
        Check.due("six days", x.gainsOf(0) + "/" + x.gainsOf(1) + "/" + x.gainsOf(2), "42/42/42");
        x.passDays(2);
        Check.due("two days with a closed shop", x.gainsOf(0) + "/" + x.gainsOf(1) + "/" + x.gainsOf(2), "56/42/56");
        x.reopen(1);
        x.passDays(1);
        Check.due("open again", x.gainsOf(1), 49);
    }

    private static void falseGrams() {
        Sentence.of(Sentence.TERMS, "The false grams of a sale are the error for the portion, plus the thumb if the shop uses it on this day.");
        // An offset of 3 and 39 * 50 / 1000 = 1 by the slope, of 20 sales at 50 coins.
        HonestScales x = Make.bureau("50 50 1 99 50 0 0", "1", "0 503 100 5 39 20 0 1", "0 503 100 5 40 20 100 1", "0 503 0 5 5000 20 100 0");
        x.passDays(1);
        Check.due("gains", x.gainsOf(0) + "/" + x.gainsOf(1) + "/" + x.gainsOf(2), "4/105/-147");
        x.visit(1);
        x.passDays(1);
        Check.due("without the thumb", x.gainsOf(1), 110);
        x.passDays(1);
        Check.due("with the thumb", x.gainsOf(1), 215);
    }

    private static void gainOfTheDay() {
        Sentence.of(Sentence.TERMS, "The gain of the day is sales * false grams * price / 1000 coins, where the price of the market is 1 to 50 coins per 1000 grams.");
        gainDue("1", "500 50 5 1000 10 99 0", 0);
        gainDue("1", "500 50 5 1000 10 100 0", 1);
        gainDue("50", "519 50 5 1000 1 0 0", 0);
        gainDue("50", "520 50 5 1000 1 0 0", 1);
        gainDue("50", "600 50 5 1000 0 100 0", 0);
        gainDue("50", "1000 100 5 5000 50 100 30", 2125);
        gainDue("50", "0 0 5 5000 50 0 30", -1875);
        gainDue("1", "1000 100 5 5000 50 100 30", 42);
        Texts.bureauNumberRefused("0 0 0 1 ", "0", " 0 0");
        Texts.bureauNumberRefused("0 0 0 1 ", "51", " 0 0");
    }

    private static void gainDue(String price, String shop, int due) {
        HonestScales x = Make.bureau("0 0 1 1 " + price + " 0 0", "1", "100 " + shop);
        x.passDays(1);
        Check.due("gain of " + shop + " at " + price, x.gainsOf(0), due);
        Check.due("purse of " + shop + " at " + price, x.purse(0), 100 + due);
    }

    private static void negativeGain() {
        Sentence.of(Sentence.TERMS, "The gain is added to the purse, even if it is negative.");
        HonestScales x = Make.bureau("0 0 1 1 50 0 0", "1", "1 480 50 5 1000 1 0 0", "0 500 50 5 1000 0 0 0");
        x.passDays(1);
        Check.due("a coin less", x.purse(0) + "/" + x.gainsOf(0), "0/-1");
        x.passDays(1);
        Check.due("below 0", x.purse(0) + "/" + x.gainsOf(0), "-1/-2");
        Check.due("a gain of 0", x.purse(1) + "/" + x.gainsOf(1), "0/0");
    }

    private static void complaintsBySales() {
        Sentence.of(Sentence.TERMS, "If the shop makes at least one sale, and the false grams of a sale are greater than portion / 20, the number of complaints grows by 1.");
        complaintsDue("550 50 5 1000 1 0 0", 0);
        complaintsDue("551 50 5 1000 1 0 0", 1);
        complaintsDue("551 50 5 1000 0 0 0", 0);
        complaintsDue("551 50 5 1000 50 0 0", 1);
        complaintsDue("501 50 5 1000 1 49 0", 0);
        complaintsDue("501 50 5 1000 1 50 0", 1);
        complaintsDue("500 50 5 19 1 0 0", 0);
        complaintsDue("501 50 5 19 1 0 0", 1);
        complaintsDue("501 50 5 20 1 0 0", 0);
        complaintsDue("501 50 5 1 1 0 0", 1);
        complaintsDue("750 50 5 5000 1 0 0", 0);
        complaintsDue("751 50 5 5000 1 0 0", 1);
        complaintsDue("0 50 5 1000 1 0 0", 0);
    }

    /** At a price of 1 most of these sales gain nothing: complaints are for grams, not for coins. */
    private static void complaintsDue(String shop, int due) {
        HonestScales x = Make.quiet("0 " + shop);
        x.passDays(1);
        Check.due("complaints about " + shop, x.complaints(0), due);
        x.passDays(2);
        Check.due("complaints about " + shop + " after three days", x.complaints(0), 3 * due);
    }

    private static void visitSetsDayAndComplaints() {
        Sentence.of(Sentence.TERMS, "To visit a shop means: the day of its latest visit is the present day, and its complaints become 0.");
        HonestScales x = Make.quiet("0 500 50 5 1 0 0 0", "0 501 50 5 1 0 0 0");
        for (int shop = 0; shop < 2; shop++) {
            x.complain(shop);
            x.complain(shop);
            x.visit(shop);
            Check.due("on day 0, shop " + shop, x.latestVisit(shop) + "/" + x.complaints(shop), "0/0");
        }
        x.passDays(100);
        x.complain(1);
        x.visit(1);
        Check.due("on day 100", x.latestVisit(0) + "/" + x.latestVisit(1) + "/" + x.complaints(1), "0/100/0");
    }

    private static void reasonsToFail() {
        Sentence.of(Sentence.TERMS, "If its scale is not true, or its stamp is not valid, it fails: it pays the fine from the purse to the bureau, and its number of failures grows by 1.");
        // A bound of 10: an offset of 10 is true, one of 11 is not.
        failureDue(510, 0, 0, 0);
        failureDue(511, 0, 1, 3);
        failureDue(510, 1, 1, 15);
        failureDue(511, 1, 1, 18);
        HonestScales x = Make.bureau("0 0 0 1 1 0 0", "1", "0 501 50 5 1 0 0 0");
        x.visit(0);
        Check.due("without a fee", x.failures(0) + "/" + x.purse(0) + "/" + x.bureauCoins(), "1/0/0");
    }

    private static void failureDue(int offset, int days, int failures, int fine) {
        HonestScales x = Make.bureau("10 0 3 1 1 0 0", "1", "2 " + offset + " 50 5 1 0 0 0", "2 500 50 5 1 0 0 0");
        if (days > 0) {
            x.passDays(days);
        }
        x.visit(0);
        String what = "an offset of " + offset + " on day " + days;
        Check.due(what + ": failures", x.failures(0) + "/" + x.failures(1), failures + "/0");
        Check.due(what + ": coins", x.purse(0) + "/" + x.purse(1) + "/" + x.bureauCoins(), (2 - fine) + "/2/" + fine);
    }

    private static void fines() {
        Sentence.of(Sentence.TERMS, "The fine is the fee, which is 0 to 99 coins, times the number of ounces of the total excess, plus 5 times the fee if the stamp is not valid.");
        fineDue("0", "529", 0, 0);
        fineDue("0", "529", 1, 0);
        fineDue("1", "529", 0, 2);
        fineDue("1", "529", 1, 7);
        fineDue("99", "500", 0, 0);
        fineDue("99", "500", 1, 495);
        fineDue("99", "529", 0, 198);
        fineDue("99", "529", 1, 693);
        HonestScales most = Make.bureau("0 0 99 1 1 0 0", "5000 4999 4998 4997 4996 4995", "0 1000 100 5 1 0 0 0");
        most.passDays(1);
        Check.due("161 ounces and the stamp", most.visit(0), 99 * 161 + 5 * 99);
        Texts.bureauNumberRefused("0 0 ", "100", " 1 1 0 0");
    }

    private static void fineDue(String fee, String offset, int days, int due) {
        HonestScales x = Make.bureau("0 0 " + fee + " 1 1 0 0", "1", "0 " + offset + " 50 5 1 0 0 0");
        if (days > 0) {
            x.passDays(days);
        }
        Check.due("a fee of " + fee + ", offset " + offset + ", day " + days, x.visit(0), due);
        Check.due("fines", x.finesOf(0), due);
    }

    private static void ounces() {
        Sentence.of(Sentence.TERMS, "The number of ounces is (total excess + 27) / 28.");
        int[] grams = {0, 1, 27, 28, 29, 55, 56, 57, 476, 477, 500};
        int[] due = {0, 1, 1, 1, 2, 2, 2, 3, 17, 18, 18};
        for (int i = 0; i < grams.length; i++) {
            HonestScales x = Make.bureau("0 0 1 1 1 0 0", "1", "0 " + (500 + grams[i]) + " 50 5 1 0 0 0");
            Check.due("the fine for " + grams[i] + " grams", x.visit(0), due[i]);
        }
        HonestScales sum = Make.bureau("0 0 1 1 1 0 0", "1 2 3", "0 510 50 5 1 0 0 0");
        Check.due("the fine for three times 10 grams", sum.visit(0), 2);
    }

    private static void afterTheFine() {
        Sentence.of(Sentence.TERMS, "After that, whether it failed or not, the offset and the slope of a scale that is not true become 0, and the last day of the stamp becomes the present day plus the validity, which is 1 to 99 days.");
        for (int validity : new int[] {1, 99}) {
            HonestScales x = Texts.taken(Make.text("10 0 1 " + validity + " 1 0 0", "1 5000", "0 505 51 5 1 0 0 0", "0 505 52 5 1 0 0 0", "0 511 50 5 1 0 0 0"));
            x.visit(0);
            Check.due("true, and it did not fail", x.failures(0) + "/" + x.offset(0) + "/" + x.slope(0) + "/" + x.stampedUntil(0), "0/5/1/" + validity);
            x.passDays(100);
            x.visit(0);
            Check.due("true, and it failed for the stamp", x.failures(0) + "/" + x.offset(0) + "/" + x.slope(0) + "/" + x.stampedUntil(0), "1/5/1/" + (100 + validity));
            x.visit(1);
            Check.due("not true by its slope", x.failures(1) + "/" + x.offset(1) + "/" + x.slope(1) + "/" + x.stampedUntil(1), "1/0/0/" + (100 + validity));
            x.visit(2);
            Check.due("not true by its offset", x.offset(2) + "/" + x.slope(2) + "/" + x.stampedUntil(2), "0/0/" + (100 + validity));
        }
        HonestScales closing = Make.closed(1, 0);
        Check.due("the stamp of the visit that closes", closing.stampedUntil(0), 7);
        Texts.bureauNumberRefused("0 0 0 ", "0", " 1 0 0");
        Texts.bureauNumberRefused("0 0 0 ", "100", " 1 0 0");
    }

    private static void thirdFailure() {
        Sentence.of(Sentence.TERMS, "If the number of failures is now 3 or more, the shop is closed.");
        HonestScales x = Make.quiet(Make.plain(2));
        Check.script(x, "days 2;visit 0;days 2;visit 0;");
        Check.due("two failures", x.failures(0) + "/" + x.isOpen(0), "2/true");
        x.visit(0);
        Check.due("a visit without a failure", x.failures(0) + "/" + x.isOpen(0), "2/true");
        x.passDays(2);
        x.visit(0);
        Check.due("three failures", x.failures(0) + "/" + x.isOpen(0) + "/" + x.isOpen(1), "3/false/true");
        x.reopen(0);
        Check.script(x, "days 2;visit 0;days 2;visit 0;");
        Check.due("two failures again", x.failures(0) + "/" + x.isOpen(0), "2/true");
        x.passDays(1);
        x.setInspectors(2);
        x.passDays(1);
        Check.due("three failures, by an inspector", x.failures(0) + "/" + x.isOpen(0), "3/false");
    }

    private TermsOfShops() {
    }
}
