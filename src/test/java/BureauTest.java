/** Promises 19 to 27: what the bureau has. */
public final class BureauTest {
    public static void main(String[] args) {
        dayCountsSinceTheSetup();
        weightsInTheOrderOfTheSetup();
        bounds();
        feeInspectorsAndSeed();
        coinsAndVisits();
        Check.end();
    }

    private static void dayCountsSinceTheSetup() {
        HonestScales x = new HonestScales();
        Check.due("day", x.day(), 0);
        x.passDays(100);
        x.passDays(17);
        Check.due("day", x.day(), 117);
        Check.feed(x, "bureau 0 0 0 1 1 0 0;weights 1;shop 0 500 50 5 1 0 0 0;");
        x.loadSetup();
        Check.due("day", x.day(), 0);
    }

    private static void weightsInTheOrderOfTheSetup() {
        HonestScales x = Check.setup("bureau 0 0 0 1 1 0 0;weights 600 5000 1 30 4 77;shop 0 500 50 5 1 0 0 0;");
        Check.due("weightCount", x.weightCount(), 6);
        int[] due = {600, 5000, 1, 30, 4, 77};
        for (int i = 0; i < 6; i++) {
            Check.due("testWeight(" + i + ")", x.testWeight(i), due[i]);
        }
        HonestScales y = Check.setup("bureau 0 0 0 1 1 0 0;weights 9;shop 0 500 50 5 1 0 0 0;");
        Check.due("weightCount", y.weightCount(), 1);
        for (int wrong : new int[] {-1, 1, 5, 6, 7, Integer.MAX_VALUE, Integer.MIN_VALUE}) {
            Check.dueThrow("testWeight(" + wrong + ")", Check.INDEX, () -> y.testWeight(wrong));
        }
        Check.dueThrow("testWeight(6)", Check.INDEX, () -> x.testWeight(6));
        Check.feed(x, "bureau 0 0 0 1 1 0 0;weights 9;shop 0 500 50 5 1 0 0 0;");
        x.loadSetup();
        Check.due("weightCount", x.weightCount(), 1);
        Check.dueThrow("testWeight(1)", Check.INDEX, () -> x.testWeight(1));
        x.undo();
        Check.due("weightCount", x.weightCount(), 6);
        Check.due("testWeight(5)", x.testWeight(5), 77);
    }

    private static void bounds() {
        HonestScales x = Check.setup("bureau 3 7 0 1 1 0 0;weights 9;shop 0 500 50 5 1 0 0 0;");
        Check.due("bound(1)", x.bound(1), 3);
        Check.due("bound(142)", x.bound(142), 3);
        Check.due("bound(143)", x.bound(143), 4);
        Check.due("bound(4999)", x.bound(4999), 37);
        Check.due("bound(5000)", x.bound(5000), 38);
        for (int wrong : new int[] {0, -1, 5001, Integer.MAX_VALUE, Integer.MIN_VALUE}) {
            Check.dueThrow("bound(" + wrong + ")", Check.ARGUMENT, () -> x.bound(wrong));
        }
    }

    private static void feeInspectorsAndSeed() {
        HonestScales x = Check.setup("bureau 3 7 98 1 1 2 65535;weights 9;shop 0 500 50 5 1 0 0 0;");
        Check.due("fee", x.fee(), 98);
        Check.due("inspectors", x.inspectors(), 2);
        Check.due("seed", x.seed(), 65535);
        x.passDays(1);
        Check.due("seed", x.seed(), (int) ((75L * 65535 + 74) % 65537));
    }

    private static void coinsAndVisits() {
        HonestScales x = Check.setup("bureau 0 0 7 1 1 1 0;weights 9;shop 50 501 50 5 1 0 0 0;");
        Check.due("bureauCoins", x.bureauCoins(), 0);
        Check.due("visits", x.visits(), 0);
        x.visit(0);
        Check.due("a fine", x.bureauCoins(), 7);
        x.repair(0);
        Check.due("a repair", x.bureauCoins(), 17);
        x.passDays(3);
        Check.due("visits", x.visits(), 4);
        Check.script(x, "visit 0;visit 0;");
        Check.due("visits of a script", x.visits(), 6);
        x.setInspectors(0);
        x.passDays(2);
        x.visit(0);
        Check.due("a fine for the stamp", x.bureauCoins(), 52);
        Check.feed(x, "bureau 0 0 0 1 1 0 0;weights 1;shop 0 500 50 5 1 0 0 0;");
        x.loadSetup();
        Check.due("since the setup", x.bureauCoins() + x.visits(), 0);
    }
}
