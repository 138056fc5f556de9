/** The edges of promises 28 to 37: what is asked about the scales. ShopArguments has those of the argument. */
final class PromisesOfScales {
    static void test() {
        Check.each(
            PromisesOfScales::offset,
            PromisesOfScales::slope,
            PromisesOfScales::drift,
            PromisesOfScales::reading,
            PromisesOfScales::excess,
            PromisesOfScales::totalExcess,
            PromisesOfScales::isTrue,
            PromisesOfScales::worstWeight,
            PromisesOfScales::stampedUntil,
            PromisesOfScales::isStamped);
    }

    private static void offset() {
        Sentence.of(28, "Returns the offset of a scale.");
        HonestScales x = Make.quiet("99 501 50 6 1 0 0 0", "99 499 50 4 1 0 0 0");
        Check.due("offsets", x.offset(0) + "/" + x.offset(1), "1/-1");
        x.passDays(1);
        Check.due("after a day", x.offset(0) + "/" + x.offset(1), "2/-2");
        x.visit(0);
        x.repair(1);
        Check.due("after a visit and a repair", x.offset(0) + "/" + x.offset(1), "0/0");
        Sentence.of(28, "Returns -500 to 500 grams.");
        HonestScales y = Make.quiet("0 997 50 10 1 0 0 0", "0 3 50 0 1 0 0 0");
        y.passDays(1);
        Check.due("the greatest and the least", y.offset(0) + "/" + y.offset(1), "500/-500");
        y.passDays(100);
        Check.due("a hundred days later", y.offset(0) + "/" + y.offset(1), "500/-500");
    }

    private static void slope() {
        Sentence.of(29, "Returns the slope of a scale.");
        HonestScales x = Make.quiet("99 501 51 6 1 0 0 0", "99 500 49 4 1 0 0 0");
        x.passDays(1);
        Check.due("slopes", x.slope(0) + "/" + x.slope(1), "1/-1");
        x.visit(0);
        x.repair(1);
        Check.due("after a visit and a repair", x.slope(0) + "/" + x.slope(1), "0/0");
        Sentence.of(29, "Returns -50 to 50 thousandths.");
        HonestScales y = Make.quiet("0 500 100 5 1 0 0 0", "0 500 0 5 1 0 0 0");
        y.passDays(100);
        Check.due("the greatest and the least", y.slope(0) + "/" + y.slope(1), "50/-50");
    }

    private static void drift() {
        Sentence.of(30, "Returns the drift of a scale.");
        HonestScales x = Make.quiet("99 501 51 6 1 0 0 0", "99 500 49 4 1 0 0 0");
        x.passDays(1);
        x.visit(0);
        x.repair(1);
        Check.due("after a visit and a repair", x.drift(0) + "/" + x.drift(1), "1/-1");
        Sentence.of(30, "Returns -5 to 5 grams per day.");
        HonestScales y = Make.quiet("0 500 50 10 1 0 0 0", "0 500 50 0 1 0 0 0");
        y.passDays(100);
        y.passDays(1);
        Check.due("the greatest and the least, at the ends of the offset", y.drift(0) + "/" + y.drift(1), "5/-5");
    }

    private static void reading() {
        Sentence.of(31, "Returns the reading of a weight.");
        HonestScales x = Make.quiet("0 503 100 5 1 0 99 0", "0 0 0 5 1 0 99 0", "0 1000 100 5 1 0 99 0");
        Check.due("readings", x.reading(0, 19) + "/" + x.reading(0, 20), "22/24");
        Sentence.of(31, "- `grams`: 1 to 5000");
        Check.due("1 and 5000", x.reading(0, 1) + "/" + x.reading(0, 5000), "4/5253");
        Sentence.of(31, "Returns the reading without a thumb, possibly negative.");
        Check.due("less than nothing", x.reading(1, 1) + "/" + x.reading(1, 500) + "/" + x.reading(1, 526) + "/" + x.reading(1, 527), "-499/-25/0/1");
        Check.due("the greatest", x.reading(2, 5000), 5750);
        x.setThumb(0, 0);
        Check.due("with another thumb", x.reading(0, 20), 24);
        Sentence.of(31, "Throws `IllegalArgumentException` if grams is out of range");
        for (int wrong : new int[] {0, -1, 5001, Integer.MAX_VALUE, Integer.MIN_VALUE}) {
            Check.dueThrow("reading(2, " + wrong + ")", Check.ARGUMENT, () -> x.reading(2, wrong));
        }
    }

    private static void excess() {
        Sentence.of(32, "Returns the excess of a scale for a weight.");
        HonestScales x = Make.bureau("10 10 0 1 1 0 0", "7", "0 521 50 5 1 0 0 0", "0 479 50 5 1 0 0 0", "0 500 100 5 1 0 0 0");
        Check.due("weights that are no test weights", x.excess(0, 99) + "/" + x.excess(1, 99) + "/" + x.excess(2, 1000), "11/11/30");
        Sentence.of(32, "- `grams`: 1 to 5000");
        Check.due("1 and 5000", x.excess(0, 1) + "/" + x.excess(2, 1) + "/" + x.excess(0, 5000) + "/" + x.excess(2, 5000), "11/0/0/190");
        Sentence.of(32, "Returns the excess in grams.");
        Check.due("one gram beyond the bound, and at the bound", x.excess(0, 1099) + "/" + x.excess(0, 1100) + "/" + x.excess(1, 1099) + "/" + x.excess(1, 1100), "1/0/1/0");
        HonestScales y = Make.quiet("0 1000 100 5 1 0 0 0", "0 0 0 5 1 0 0 0");
        Check.due("the greatest", y.excess(0, 5000) + "/" + y.excess(1, 5000), "750/750");
        Sentence.of(32, "Throws `IllegalArgumentException` if grams is out of range");
        for (int wrong : new int[] {0, -1, 5001, Integer.MAX_VALUE, Integer.MIN_VALUE}) {
            Check.dueThrow("excess(2, " + wrong + ")", Check.ARGUMENT, () -> x.excess(2, wrong));
        }
    }

    private static void totalExcess() {
        Sentence.of(33, "Returns the total excess of a scale.");
        HonestScales x = Make.bureau("10 0 0 1 1 0 0", "1 2 3 4 5 6", "0 510 50 5 1 0 0 0", "0 511 50 5 1 0 0 0", "0 489 50 5 1 0 0 0");
        Check.due("at the bound, and beyond it", x.totalExcess(0) + "/" + x.totalExcess(1) + "/" + x.totalExcess(2), "0/6/6");
        Sentence.of(33, "Returns the sum in grams.");
        HonestScales y = Make.bureau(Make.QUIET, "5000 4999 4998 4997 4996 4995", "0 1000 100 5 1 0 0 0", "0 0 0 5 1 0 0 0");
        Check.due("the greatest", y.totalExcess(0) + "/" + y.totalExcess(1), "4495/4495");
        HonestScales z = Make.bureau(Make.QUIET, "5000", "0 750 0 5 1 0 0 0", "0 749 0 5 1 0 0 0");
        Check.due("one weight", z.totalExcess(0) + "/" + z.totalExcess(1), "0/1");
    }

    private static void isTrue() {
        Sentence.of(34, "Tells whether a scale is true.");
        HonestScales x = Make.bureau("10 0 1 1 1 0 0", "1", "99 510 50 6 1 0 0 0", "99 490 50 4 1 0 0 0");
        Check.due("at the bound", x.isTrue(0) + "/" + x.isTrue(1), "true/true");
        x.passDays(1);
        Check.due("one gram beyond", x.isTrue(0) + "/" + x.isTrue(1), "false/false");
        Sentence.of(34, "Returns true if it is true.");
        x.visit(0);
        x.repair(1);
        Check.due("after a visit and a repair", x.isTrue(0) + "/" + x.isTrue(1), "true/true");
        HonestScales y = Make.bureau("10 0 1 1 1 0 0", "1 2 3 4 5 5000", "0 500 52 5 1 0 0 0", "0 500 53 5 1 0 0 0", "0 510 48 5 1 0 0 0");
        Check.due("the last of six weights", y.isTrue(0) + "/" + y.isTrue(1) + "/" + y.isTrue(2), "true/false/true");
        x.setThumb(0, 100);
        Check.due("thumbs are not weighed", x.isTrue(0), true);
    }

    private static void worstWeight() {
        Sentence.of(35, "Returns the test weight for which a scale has the greatest excess.");
        HonestScales x = Make.bureau("10 0 1 1 1 0 0", "3000 1 5000 2", "0 500 60 5 1 0 0 0", "0 550 40 5 1 0 0 0", "0 500 40 5 1 0 0 0");
        // Excesses of 20 0 40 0, of 10 40 0 40, and of 20 0 40 0 again.
        Check.due("the greatest", x.worstWeight(0) + "/" + x.worstWeight(1) + "/" + x.worstWeight(2), "2/1/2");
        Sentence.of(35, "Returns index of a test weight, the smallest one among equals.");
        HonestScales y = Make.bureau("10 0 1 1 1 0 0", "5 4 3 2 1 5000", "0 500 50 5 1 0 0 0", "0 600 50 5 1 0 0 0", "0 510 51 5 1 0 0 0", "0 600 40 5 1 0 0 0");
        Check.due("all 0, all equal, the last, the first five", y.worstWeight(0) + "/" + y.worstWeight(1) + "/" + y.worstWeight(2) + "/" + y.worstWeight(3), "0/0/5/0");
        Check.due("the only one", Make.quiet("0 0 0 5 1 0 0 0").worstWeight(0), 0);
    }

    private static void stampedUntil() {
        Sentence.of(36, "Returns the last day of the stamp of a scale.");
        HonestScales x = Make.bureau("0 0 1 99 1 0 0", "1", "99 500 50 5 1 0 0 0", Make.PLAIN);
        Check.due("at the beginning", x.stampedUntil(0), 0);
        x.visit(0);
        Check.due("visited on day 0", x.stampedUntil(0) + "/" + x.stampedUntil(1), "99/0");
        Sentence.of(36, "Returns the day.");
        x.passDays(100);
        Check.due("a day that has passed", x.stampedUntil(0) + "/" + x.stampedUntil(1), "99/0");
        x.visit(1);
        Check.due("visited on day 100", x.stampedUntil(1), 199);
        x.repair(0);
        Check.due("a repair brings no stamp", x.stampedUntil(0), 99);
    }

    private static void isStamped() {
        Sentence.of(37, "Tells whether the stamp of a scale is valid.");
        HonestScales x = Make.bureau("0 0 1 1 1 0 0", "1", Make.plain(2));
        Check.due("on day 0", x.isStamped(0) + "/" + x.isStamped(1), "true/true");
        x.passDays(1);
        Check.due("on day 1", x.isStamped(0) + "/" + x.isStamped(1), "false/false");
        Sentence.of(37, "Returns true if it is valid.");
        x.visit(0);
        Check.due("visited", x.isStamped(0) + "/" + x.isStamped(1), "true/false");
        x.passDays(1);
        Check.due("on its last day", x.isStamped(0), true);
        x.passDays(1);
        Check.due("behind its last day", x.isStamped(0), false);
        x.undo();
        Check.due("undone", x.isStamped(0), true);
    }

    private PromisesOfScales() {
    }
}
