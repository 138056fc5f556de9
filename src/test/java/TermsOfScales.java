/** The edges in "Terms" of shops, scales, bounds and test weights. */
final class TermsOfScales {
    static void test() {
        Check.each(
            TermsOfScales::oneToEightShops,
            TermsOfScales::rangesOfAScale,
            TermsOfScales::errorForAWeight,
            TermsOfScales::readingOfAWeight,
            TermsOfScales::divisionsRoundTowardsZero,
            TermsOfScales::baseAndRate,
            TermsOfScales::boundForAWeight,
            TermsOfScales::excessIsAtLeastZero,
            TermsOfScales::oneToSixWeights,
            TermsOfScales::trueForAllWeights,
            TermsOfScales::totalOfAllWeights);
    }

    private static void oneToEightShops() {
        Sentence.of(Sentence.TERMS, "There are 1 to 8 shops, numbered from 0, and each shop has one scale.");
        HonestScales one = Texts.taken(Make.text(Make.QUIET, "1", "0 501 50 5 1 0 0 0"));
        Check.due("shops", one.shopCount(), 1);
        Check.due("the only scale", one.offset(0), 1);
        Check.dueNoSuchShop("offset", one, one::offset);
        String[] shops = new String[8];
        for (int i = 0; i < 8; i++) {
            shops[i] = "0 " + (501 + i) + " 50 5 1 0 0 0";
        }
        String text = Make.text(Make.QUIET, "1", shops);
        HonestScales eight = Texts.taken(text);
        Check.due("shops", eight.shopCount(), 8);
        for (int i = 0; i < 8; i++) {
            Check.due("scale " + i, eight.offset(i), i + 1);
        }
        Check.dueNoSuchShop("offset", eight, eight::offset);
        Texts.refused(text + "shop " + Make.PLAIN + ";", HonestScales.LIMIT, text.length());
        String none = Make.text(Make.QUIET, "1");
        Texts.refused(none, HonestScales.SYNTAX, none.length());
    }

    private static void rangesOfAScale() {
        Sentence.of(Sentence.TERMS, "A scale has an offset of -500 to 500 grams, a slope of -50 to 50 thousandths, and a drift of -5 to 5 grams per day.");
        HonestScales x = Texts.taken(Make.text(Make.QUIET, "1", "0 0 0 0 1 0 0 0", "0 1000 100 10 1 0 0 0", Make.PLAIN));
        Check.due("the least", x.offset(0) + "/" + x.slope(0) + "/" + x.drift(0), "-500/-50/-5");
        Check.due("the greatest", x.offset(1) + "/" + x.slope(1) + "/" + x.drift(1), "500/50/5");
        Check.due("those in the middle", x.offset(2) + "/" + x.slope(2) + "/" + x.drift(2), "0/0/0");
        Texts.shopNumberRefused("0 ", "1001", " 50 5 1 0 0 0");
        Texts.shopNumberRefused("0 500 ", "101", " 5 1 0 0 0");
        Texts.shopNumberRefused("0 500 50 ", "11", " 1 0 0 0");
    }

    private static void errorForAWeight() {
        Sentence.of(Sentence.TERMS, "Its error for a weight of some grams is offset + grams * slope / 1000.");
        HonestScales x = Make.quiet("0 503 100 5 1 0 0 0", "0 503 0 5 1 0 0 0", "0 503 50 5 1 0 0 0", "0 1000 100 5 1 0 0 0", "0 0 0 5 1 0 0 0");
        errorsDue(x, 0, 1, 3, 19, 3, 20, 4, 39, 4, 40, 5, 5000, 253);
        errorsDue(x, 1, 1, 3, 19, 3, 20, 2, 39, 2, 40, 1, 5000, -247);
        errorsDue(x, 2, 1, 3, 5000, 3);
        errorsDue(x, 3, 1, 500, 5000, 750);
        errorsDue(x, 4, 1, -500, 5000, -750);
    }

    private static void errorsDue(HonestScales x, int shop, int... gramsAndErrors) {
        for (int i = 0; i < gramsAndErrors.length; i += 2) {
            int grams = gramsAndErrors[i];
            Check.due("error of scale " + shop + " for " + grams, x.reading(shop, grams) - grams, gramsAndErrors[i + 1]);
        }
    }

    private static void readingOfAWeight() {
        Sentence.of(Sentence.TERMS, "The reading of a weight is the weight plus the error.");
        HonestScales x = Make.quiet("0 0 50 5 1 0 100 0", "0 1000 100 5 1 0 100 0", "0 500 50 5 1 0 100 0");
        Check.due("less than nothing", x.reading(0, 1) + "/" + x.reading(0, 499), "-499/-1");
        Check.due("nothing", x.reading(0, 500), 0);
        Check.due("the greatest", x.reading(1, 5000), 5750);
        Check.due("without an error", x.reading(2, 1) + "/" + x.reading(2, 5000), "1/5000");
    }

    private static void divisionsRoundTowardsZero() {
        Sentence.of(Sentence.TERMS, "All divisions of integers round towards zero.");
        HonestScales x = Make.quiet("0 500 0 5 1 0 0 0", "0 500 49 5 1 0 0 0", "0 501 49 5 1 0 0 0", "0 499 51 5 1 0 0 0");
        Check.due("-950 and -1950 thousandths", x.reading(0, 19) + "/" + x.reading(0, 39), "19/38");
        Check.due("-999 thousandths", x.reading(1, 999), 999);
        Check.due("1 gram and -999 thousandths, rounded before the sum", x.reading(2, 999), 1000);
        Check.due("-1 gram and 999 thousandths", x.reading(3, 999), 998);
        Check.due("a bound of 950 thousandths", Make.bureau("0 50 0 1 1 0 0", "1", Make.PLAIN).bound(19), 0);
        HonestScales y = Make.bureau("0 0 0 1 50 0 0", "1", "0 481 50 5 1 1 0 0", "0 461 50 5 1 1 0 0", "0 519 50 5 1 1 0 0", "0 502 50 5 59 1 0 0", "0 503 50 5 59 1 0 0");
        y.passDays(1);
        Check.due("gains of -950, -1950 and 950 thousandths", y.gainsOf(0) + "/" + y.gainsOf(1) + "/" + y.gainsOf(2), "0/-1/0");
        Check.due("2 and 3 grams against 59 / 20", y.complaints(3) + "/" + y.complaints(4), "0/1");
    }

    private static void baseAndRate() {
        Sentence.of(Sentence.TERMS, "The bureau has a base of 0 to 50 grams and a rate of 0 to 50 thousandths.");
        HonestScales least = Texts.taken(Make.text("0 0 0 1 1 0 0", "1", Make.PLAIN));
        Check.due("the least", least.bound(1) + "/" + least.bound(5000), "0/0");
        HonestScales most = Texts.taken(Make.text("50 50 0 1 1 0 0", "1", Make.PLAIN));
        Check.due("the greatest", most.bound(1) + "/" + most.bound(5000), "50/300");
        Texts.bureauNumberRefused("", "51", " 0 0 1 1 0 0");
        Texts.bureauNumberRefused("0 ", "51", " 0 1 1 0 0");
    }

    private static void boundForAWeight() {
        Sentence.of(Sentence.TERMS, "The bound for a weight is base + grams * rate / 1000.");
        HonestScales x = Make.bureau("5 1 0 1 1 0 0", "1", Make.PLAIN);
        Check.due("bounds", x.bound(1) + "/" + x.bound(999) + "/" + x.bound(1000) + "/" + x.bound(4999) + "/" + x.bound(5000), "5/5/6/9/10");
        HonestScales y = Make.bureau("50 0 0 1 1 0 0", "1", Make.PLAIN);
        Check.due("without a rate", y.bound(1) + "/" + y.bound(5000), "50/50");
        HonestScales z = Make.bureau("0 49 0 1 1 0 0", "1", Make.PLAIN);
        Check.due("without a base", z.bound(20) + "/" + z.bound(21) + "/" + z.bound(5000), "0/1/245");
    }

    private static void excessIsAtLeastZero() {
        Sentence.of(Sentence.TERMS, "The excess of a scale for a weight is the absolute value of its error minus the bound, but at least 0.");
        int[] offsets = {0, 9, 10, 11, -9, -10, -11, 500, -500};
        int[] due = {0, 0, 0, 1, 0, 0, 1, 490, 490};
        for (int i = 0; i < offsets.length; i++) {
            HonestScales x = Make.bureau("10 0 0 1 1 0 0", "1", "0 " + (500 + offsets[i]) + " 50 5 1 0 0 0");
            Check.due("an error of " + offsets[i], x.excess(0, 1), due[i]);
        }
        HonestScales zero = Make.quiet("0 500 50 5 1 0 0 0", "0 501 50 5 1 0 0 0", "0 499 50 5 1 0 0 0");
        Check.due("a bound of 0", zero.excess(0, 1) + "/" + zero.excess(1, 1) + "/" + zero.excess(2, 1), "0/1/1");
    }

    private static void oneToSixWeights() {
        Sentence.of(Sentence.TERMS, "The bureau has 1 to 6 test weights of 1 to 5000 grams, no two of them equal.");
        HonestScales one = Texts.taken(Make.text(Make.QUIET, "5000", Make.PLAIN));
        Check.due("one weight", one.weightCount() + "/" + one.testWeight(0), "1/5000");
        HonestScales six = Texts.taken(Make.text(Make.QUIET, "1 2 3 4 4999 5000", Make.PLAIN));
        Check.due("six weights", six.weightCount() + "/" + six.testWeight(0) + "/" + six.testWeight(5), "6/1/5000");
        String head = "bureau " + Make.QUIET + ";weights ";
        String end = ";shop " + Make.PLAIN + ";";
        Texts.refused(head + end, HonestScales.SYNTAX, head.length());
        Texts.refused(head + "0" + end, HonestScales.RANGE, head.length());
        Texts.refused(head + "5001" + end, HonestScales.RANGE, head.length());
        Texts.refused(head + "1 2 3 4 5 6 7" + end, HonestScales.LIMIT, head.length() + 12);
        Texts.refused(head + "8 8" + end, HonestScales.TWICE, head.length() + 2);
        Texts.refused(head + "8 2 3 4 5 8" + end, HonestScales.TWICE, head.length() + 10);
    }

    private static void trueForAllWeights() {
        Sentence.of(Sentence.TERMS, "A scale is true if its excess is 0 for all test weights.");
        // Slopes of 2 and of 3 thousandths: errors of 10 and of 15 grams for 5000, and of 0 for the others.
        String[] shops = {"0 500 52 5 1 0 0 0", "0 500 53 5 1 0 0 0", "0 500 48 5 1 0 0 0", "0 500 47 5 1 0 0 0"};
        for (String weights : new String[] {"1 2 3 4 6 5000", "5000 1 2 3 4 6", "1 2 5000 3 4 6", "5000"}) {
            HonestScales x = Make.bureau("10 0 0 1 1 0 0", weights, shops);
            Check.due("with " + weights, x.isTrue(0) + "/" + x.isTrue(1) + "/" + x.isTrue(2) + "/" + x.isTrue(3), "true/false/true/false");
        }
        HonestScales y = Make.bureau("10 0 0 1 1 0 0", "1", "0 510 50 5 1 0 0 0", "0 511 50 5 1 0 0 0", "0 489 50 5 1 0 0 0");
        Check.due("at the bound, and one gram beyond", y.isTrue(0) + "/" + y.isTrue(1) + "/" + y.isTrue(2), "true/false/false");
    }

    private static void totalOfAllWeights() {
        Sentence.of(Sentence.TERMS, "The total excess of a scale is the sum of its excesses for all test weights.");
        // 11 grams at 1 gram, and 11 - 10 at 5000: what is within the bound must not be taken off again.
        HonestScales x = Make.bureau("10 0 0 1 1 0 0", "1 5000", "0 511 48 5 1 0 0 0", "0 510 50 5 1 0 0 0", "0 489 50 5 1 0 0 0");
        Check.due("totals", x.totalExcess(0) + "/" + x.totalExcess(1) + "/" + x.totalExcess(2), "1/0/2");
        HonestScales most = Make.quiet("0 1000 100 5 1 0 0 0");
        Check.due("one weight", most.totalExcess(0), 500);
        HonestScales six = Make.bureau(Make.QUIET, "5000 4999 4998 4997 4996 4995", "0 1000 100 5 1 0 0 0", "0 0 0 5 1 0 0 0");
        Check.due("the greatest", six.totalExcess(0) + "/" + six.totalExcess(1), "4495/4495");
    }

    private TermsOfScales() {
    }
}
