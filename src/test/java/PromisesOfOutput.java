/** The edges of promises 61 to 65: sums over all shops, and the output text. */
final class PromisesOfOutput {
    static void test() {
        Check.each(
            PromisesOfOutput::coinError,
            PromisesOfOutput::meanExcess,
            PromisesOfOutput::trueShare,
            PromisesOfOutput::writeShop,
            PromisesOfOutput::writeShopReturns,
            PromisesOfOutput::outputByte,
            PromisesOfOutput::noOutputByte);
    }

    private static void coinError() {
        Sentence.of(61, "Returns the difference between the coins that were there and the coins that are accounted for.");
        HonestScales x = Make.quiet("9999 529 50 5 1 0 0 0", "0 500 50 5 1 0 0 0", "0 400 50 5 1000 50 0 0");
        Check.due("at the beginning", x.coinError(), 0);
        x.visit(0);
        Check.due("a fine", x.coinError(), 0);
        x.repair(0);
        Check.due("a repair", x.coinError(), 0);
        x.passDays(100);
        Check.due("losses", x.purse(2) < 0 ? x.coinError() : -1, 0);
        x.visit(1);
        Check.due("a purse below 0", x.purse(1) < 0 ? x.coinError() : -1, 0);
        Sentence.of(61, "Returns the purses of the setup plus the gains of all shops, minus all purses, minus the coins of the bureau; this is always 0.");
        x.saveSnapshot(0);
        x.undo();
        Check.due("undone", x.coinError(), 0);
        Check.feed(x, Make.text("0 0 99 1 50 3 0", "1", "9999 1000 100 10 5000 50 100 0", "77 0 0 0 5000 50 0 0"));
        x.loadSetup();
        Check.due("another setup", x.coinError(), 0);
        for (int i = 0; i < 20; i++) {
            x.passDays(100);
            Check.script(x, "open 0;");
            Check.script(x, "open 1;");
            Check.due("the greatest gains and fines", x.coinError(), 0);
        }
        x.restoreSnapshot(0);
        Check.due("restored", x.coinError(), 0);
        String[] fined = {"5 501 50 5 1 0 0 0", "5 501 50 5 1 0 0 0"};
        HonestScales y = Make.quiet(fined);
        Check.script(y, "visit 0;visit 1;");
        Check.feed(y, Make.text(Make.QUIET, "1", "7 501 50 5 1 0 0 0"));
        y.loadSetup();
        Check.due("one shop after two that were fined", y.coinError(), 0);
        HonestScales z = Make.quiet(Make.plain(8));
        Check.script(z, "days 1;visit 0;visit 7;");
        Check.due("eight shops", z.coinError(), 0);
    }

    private static void meanExcess() {
        Sentence.of(62, "Returns the mean total excess of the scales.");
        Check.due("all true", Make.quiet(Make.plain(8)).meanExcess(), 0.0);
        Check.due("one scale", Make.bureau(Make.QUIET, "5000 4999 4998 4997 4996 4995", "0 0 0 5 1 0 0 0").meanExcess(), 4495.0);
        Sentence.of(62, "Returns (double) (sum of the total excesses of all scales) / (double) (number of shops).");
        Check.due("a third", Make.quiet(Make.PLAIN, Make.PLAIN, "0 501 50 5 1 0 0 0").meanExcess(), 1.0 / 3.0);
        Check.due("2 thirds, of both signs", Make.quiet(Make.PLAIN, "0 499 50 5 1 0 0 0", "0 501 50 5 1 0 0 0").meanExcess(), 2.0 / 3.0);
        Check.due("half", Make.quiet(Make.PLAIN, "0 501 50 5 1 0 0 0").meanExcess(), 0.5);
        String[] shops = Make.plain(8);
        shops[7] = "0 501 50 5 1 0 0 0";
        Check.due("an eighth", Make.quiet(shops).meanExcess(), 0.125);
        HonestScales x = Make.quiet("0 500 50 6 1 0 0 0", "0 500 50 5 1 0 0 0");
        Make.close(x, 0);
        x.passDays(3);
        Check.due("closed shops have scales too", x.meanExcess(), 1.5);
    }

    private static void trueShare() {
        Sentence.of(63, "Returns the share of the scales that are true.");
        Check.due("all", Make.quiet(Make.plain(8)).trueShare(), 1.0f);
        Check.due("none", Make.quiet("0 501 50 5 1 0 0 0").trueShare(), 0.0f);
        Check.due("the only one", Make.quiet(Make.PLAIN).trueShare(), 1.0f);
        Sentence.of(63, "Returns (float) (scales that are true) / (float) (number of shops).");
        String bad = "0 501 50 5 1 0 0 0";
        Check.due("a third", Make.quiet(bad, bad, Make.PLAIN).trueShare(), 1.0f / 3.0f);
        Check.due("2 thirds", Make.quiet(Make.PLAIN, bad, Make.PLAIN).trueShare(), 2.0f / 3.0f);
        Check.due("6 sevenths", Make.quiet(Make.PLAIN, Make.PLAIN, Make.PLAIN, Make.PLAIN, Make.PLAIN, Make.PLAIN, bad).trueShare(), 6.0f / 7.0f);
        HonestScales x = Make.closed(2, 1);
        Check.due("closed shops have scales too", x.trueShare(), 1.0f);
    }

    private static void writeShop() {
        Sentence.of(64, "Writes a shop to the output text, replacing the previous text: its purse in decimal, with a hyphen (byte 45) before it if it is negative; then a t (byte 116) if its scale is true and an f (byte 102) otherwise; then an s (byte 115) if its stamp is valid; then an x (byte 120) if it is closed.");
        HonestScales x = Make.bureau("0 0 1 1 1 0 0", "1", "0 500 50 5 1 0 0 0", "9999 501 50 5 1 0 0 0", "10 500 50 5 1 0 0 0");
        writtenDue(x, 1, "9999fs");
        writtenDue(x, 0, "0ts");
        x.repair(2);
        writtenDue(x, 2, "0ts");
        x.passDays(1);
        writtenDue(x, 0, "0t");
        writtenDue(x, 1, "9999f");
        x.visit(0);
        writtenDue(x, 0, "-5ts");
        Check.script(x, "days 2;visit 0;days 2;visit 0;");
        writtenDue(x, 0, "-15tsx");
        x.passDays(2);
        writtenDue(x, 0, "-15tx");
        x.reopen(0);
        writtenDue(x, 0, "-15t");
        HonestScales y = Make.bureau("0 0 99 9 50 0 0", "1", "9 0 50 6 5000 50 0 0");
        Check.script(y, "days 1;visit 0;days 10;visit 0;days 10;visit 0;days 1;");
        Check.due("closed", y.isOpen(0), false);
        writtenDue(y, 0, y.purse(0) + "fsx");
        y.passDays(9);
        writtenDue(y, 0, y.purse(0) + "fx");
        Check.due("the bytes of a hyphen and of letters", y.outputByte(0) + "/" + y.outputByte(y.writeShop(0) - 2) + "/" + y.outputByte(y.writeShop(0) - 1), "45/102/120");
        x.writeShop(0);
        Check.due("a t", x.outputByte(3), 116);
        x.visit(0);
        Check.due("an s", x.outputByte(x.writeShop(0) - 1), 115);
    }

    private static void writtenDue(HonestScales x, int shop, String text) {
        Check.due("the length of " + text, x.writeShop(shop), text.length());
        Check.due("the text", Check.output(x, text.length()), text);
        Check.due("nothing behind it", x.outputByte(text.length()), HonestScales.NONE);
    }

    private static void writeShopReturns() {
        Sentence.of(64, "Returns the length of the output text.");
        HonestScales x = Make.bureau("0 0 1 1 50 0 0", "1", "9 500 50 5 1 0 0 0", "9999 1000 100 5 5000 50 100 0", "0 0 0 5 5000 50 0 0");
        Check.due("a short one", x.writeShop(0), 3);
        Check.due("a longer one", x.writeShop(1), 6);
        Check.due("the short one again", x.writeShop(0), 3);
        x.passDays(1);
        Check.due("without a stamp", x.writeShop(0), 2);
        for (int i = 0; i < 8; i++) {
            Check.script(x, "days 100;".repeat(10));
        }
        // 9999 + 8001 * 2125, and -8001 * 1875.
        Check.due("millions", x.writeShop(1) + "/" + Check.output(x, 9), "9/17012124f");
        Check.due("millions below 0", x.writeShop(2) + "/" + Check.output(x, 10), "10/-15001875f");
    }

    private static void outputByte() {
        Sentence.of(65, "- `index`: index of the byte");
        HonestScales x = Make.quiet("1234 500 50 5 1 0 0 0", "9 501 50 5 1 0 0 0");
        x.writeShop(0);
        Check.due("the first and the last", x.outputByte(0) + "/" + x.outputByte(5), "49/115");
        Sentence.of(65, "Returns the byte;");
        Check.due("those between", x.outputByte(1) + "/" + x.outputByte(2) + "/" + x.outputByte(3) + "/" + x.outputByte(4), "50/51/52/116");
        Sentence.of(65, "Returns a byte of the output text.");
        x.writeShop(1);
        Check.due("of the text that replaced it", x.outputByte(0) + "/" + x.outputByte(1) + "/" + x.outputByte(2), "57/102/115");
    }

    private static void noOutputByte() {
        Sentence.of(65, "NONE if index is negative or not less than the length of the text.");
        HonestScales x = Make.quiet("1234 500 50 5 1 0 0 0", "9 501 50 5 1 0 0 0");
        for (int wrong : new int[] {0, 1, -1, Integer.MAX_VALUE, Integer.MIN_VALUE}) {
            Check.due("outputByte(" + wrong + ") of an empty text", x.outputByte(wrong), HonestScales.NONE);
        }
        x.writeShop(0);
        for (int wrong : new int[] {6, 7, -1, Integer.MAX_VALUE, Integer.MIN_VALUE}) {
            Check.due("outputByte(" + wrong + ") of six bytes", x.outputByte(wrong), HonestScales.NONE);
        }
        x.writeShop(1);
        Check.due("bytes of the text before", x.outputByte(3) + "/" + x.outputByte(5), "-1/-1");
    }

    private PromisesOfOutput() {
    }
}
