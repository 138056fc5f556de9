/** Promises 61 to 65: the sums over all shops, and the output text. */
public final class OutputTest {
    public static void main(String[] args) {
        coinsAreAccountedFor();
        meansAndShares();
        shopsAreWritten();
        bytesOutside();
        Check.end();
    }

    private static void coinsAreAccountedFor() {
        HonestScales x = new HonestScales();
        Check.due("coinError", x.coinError(), 0);
        for (int i = 0; i < 20; i++) {
            x.passDays(13);
            Check.due("coinError", x.coinError(), 0);
            Check.script(x, "repair 0;visit 1;repair 2;open 0;");
            Check.due("coinError", x.coinError(), 0);
        }
        x.saveSnapshot(0);
        Check.feed(x, "bureau 0 0 9 1 50 3 0;weights 1;shop 77 560 50 7 1000 50 0 0;");
        x.loadSetup();
        x.passDays(9);
        Check.due("coinError", x.coinError(), 0);
        x.restoreSnapshot(0);
        Check.due("coinError", x.coinError(), 0);
    }

    private static void meansAndShares() {
        HonestScales x = Check.setup("bureau 0 0 9 1 50 0 0;weights 1;shop 10 501 50 5 1 0 0 0;shop 0 501 50 5 1 0 0 0;shop 0 500 50 5 1 0 0 0;");
        Check.due("meanExcess", x.meanExcess(), 2.0 / 3.0);
        Check.due("trueShare", x.trueShare(), 1.0f / 3.0f);
        x.repair(0);
        Check.due("meanExcess", x.meanExcess(), 1.0 / 3.0);
        Check.due("trueShare", x.trueShare(), 2.0f / 3.0f);
        x.visit(1);
        Check.due("meanExcess", x.meanExcess(), 0.0);
        Check.due("trueShare", x.trueShare(), 1.0f);
        HonestScales y = Check.setup("bureau 0 0 9 1 50 0 0;weights 1 2;shop 0 0 50 5 1 0 0 0;");
        Check.due("meanExcess", y.meanExcess(), 1000.0);
        Check.due("trueShare", y.trueShare(), 0.0f);
        HonestScales z = new HonestScales();
        Check.due("meanExcess", z.meanExcess(), 67.0 / 3.0);
    }

    private static void shopsAreWritten() {
        HonestScales x = Check.setup("bureau 0 0 99 3 50 0 0;weights 1;shop 9999 500 50 5 1 0 0 0;shop 0 501 50 5 1 0 0 0;shop 30 500 50 5 1 0 0 0;");
        written(x, 0, "9999ts");
        written(x, 1, "0fs");
        x.passDays(1);
        written(x, 0, "9999t");
        written(x, 1, "0f");
        x.visit(1);
        written(x, 1, "-594ts");
        Check.script(x, "days 9;visit 1;days 9;visit 1;");
        written(x, 1, "-1584tsx");
        x.passDays(4);
        written(x, 1, "-1584tx");
        written(x, 2, "30t");
        Check.dueNoSuchShop("writeShop", x, x::writeShop);
        Check.due("the text stays", Check.output(x, 3), "30t");
        HonestScales y = Check.setup("bureau 0 0 99 3 50 0 0;weights 1;shop 9 500 50 6 1 0 0 0;");
        Check.script(y, "days 4;visit 0;days 4;visit 0;days 4;visit 0;days 1;");
        written(y, 0, "-1773fsx");
    }

    private static void written(HonestScales x, int shop, String text) {
        Check.due("length of " + text, x.writeShop(shop), text.length());
        Check.due("text", Check.output(x, text.length()), text);
        Check.due("behind the text", x.outputByte(text.length()), HonestScales.NONE);
    }

    private static void bytesOutside() {
        HonestScales x = new HonestScales();
        for (int index : new int[] {0, 1, -1, Integer.MAX_VALUE, Integer.MIN_VALUE}) {
            Check.due("outputByte(" + index + ")", x.outputByte(index), HonestScales.NONE);
        }
        Check.due("writeShop", x.writeShop(0), 5);
        int[] due = {49, 48, 48, 116, 115};
        for (int i = 0; i < due.length; i++) {
            Check.due("outputByte(" + i + ")", x.outputByte(i), due[i]);
        }
        for (int index : new int[] {5, 6, -1, Integer.MAX_VALUE, Integer.MIN_VALUE}) {
            Check.due("outputByte(" + index + ")", x.outputByte(index), HonestScales.NONE);
        }
        x.writeShop(1);
        Check.due("a shorter text", x.outputByte(4), HonestScales.NONE);
    }
}
