/** Promises 8 to 18: days, visits, the small changes, undo and snapshots. */
public final class ChangesTest {
    public static void main(String[] args) {
        daysPassInTheirSteps();
        gainsAndComplaints();
        inspectorsFollowComplaints();
        inspectorsFollowTheSeed();
        inspectorsStopWhenNobodyIsLeft();
        passDaysRange();
        visitFines();
        visitStraightensAndStamps();
        thirdFailureCloses();
        repairs();
        thumbs();
        complaintsOfCustomers();
        reopening();
        inspectorsAndFee();
        undoGoesBackEightChanges();
        undoAfterUndo();
        everyChangeIsUndoable();
        failedCallsChangeNothing();
        snapshots();
        Check.end();
    }

    private static void daysPassInTheirSteps() {
        HonestScales x = Check.setup("bureau 0 0 10 5 50 1 0;weights 100;shop 100 510 50 7 1000 20 7 1;");
        // Day 1: offset 12 after the drift, thumb 7: 20 * 19 * 50 / 1000 = 19; then the visit finds an excess of 12.
        Check.due("passDays(1)", x.passDays(1), 1);
        Check.due("day", x.day(), 1);
        Check.due("gain", x.gainsOf(0), 19);
        Check.due("fine for one ounce, the stamp is over", x.finesOf(0), 60);
        Check.due("purse", x.purse(0), 59);
        Check.due("offset after the visit", x.offset(0), 0);
        Check.due("stamp", x.stampedUntil(0), 6);
        // Day 2: offset 2, and a caution of 1 day: no thumb.
        Check.due("passDays(1)", x.passDays(1), 1);
        Check.due("gain", x.gainsOf(0), 21);
        Check.due("fine for one ounce", x.finesOf(0), 70);
        // Two days without inspectors: offsets 2 and 4, and from the second one on the thumb.
        x.setInspectors(0);
        Check.due("passDays(2)", x.passDays(2), 0);
        Check.due("gain", x.gainsOf(0), 21 + 2 + 11);
        x.passDays(100);
        Check.due("offset", x.offset(0), 204);
        x.passDays(100);
        x.passDays(100);
        Check.due("offset stays within 500", x.offset(0), 500);
        HonestScales y = Check.setup("bureau 0 0 10 5 50 0 0;weights 100;shop 100 8 50 0 1000 20 7 1;shop 0 999 50 10 1 0 0 0;");
        y.passDays(1);
        Check.due("offset", y.offset(0), -497);
        Check.due("offset", y.offset(1), 500);
        y.passDays(1);
        Check.due("offset stays within -500", y.offset(0), -500);
    }

    private static void gainsAndComplaints() {
        sale("510 50 5 1000 1 0 0", 50, 0, 0);
        sale("510 50 5 1000 2 0 0", 50, 1, 0);
        sale("470 50 5 1000 1 0 0", 50, -1, 0);
        sale("490 50 5 1000 1 0 0", 50, 0, 0);
        sale("550 50 5 1000 1 0 0", 20, 1, 0);
        sale("551 50 5 1000 1 0 0", 20, 1, 1);
        sale("500 50 5 1000 1 51 0", 20, 1, 1);
        sale("500 50 5 1019 1 51 0", 20, 1, 1);
        sale("500 50 5 1020 1 51 0", 20, 1, 0);
        sale("551 50 5 1000 0 9 0", 20, 0, 0);
        sale("501 50 5 19 50 0 0", 50, 2, 1);
        sale("501 50 5 20 50 0 0", 50, 2, 0);
        sale("500 50 5 19 50 0 0", 50, 0, 0);
        sale("500 60 5 1099 50 0 0", 50, 25, 0);
        sale("500 40 5 1099 50 0 0", 50, -25, 0);
        sale("1000 100 5 5000 50 100 30", 50, 2125, 1);
        sale("0 0 5 5000 50 0 30", 50, -1875, 0);
    }

    private static void sale(String shop, int price, int gain, int complaints) {
        HonestScales x = Check.setup("bureau 0 0 10 5 " + price + " 0 0;weights 100;shop 7 " + shop + ";");
        Check.due("nextGain for " + shop, x.nextGain(0), gain);
        x.passDays(1);
        Check.due("gain for " + shop, x.gainsOf(0), gain);
        Check.due("purse for " + shop, x.purse(0), 7 + gain);
        Check.due("complaints for " + shop, x.complaints(0), complaints);
        x.passDays(2);
        Check.due("complaints after three days for " + shop, x.complaints(0), 3 * complaints);
    }

    private static HonestScales fourShops(int inspectors, int seed) {
        String shop = "shop 100 500 50 5 1000 0 0 0;";
        return Check.setup("bureau 0 0 10 5 50 " + inspectors + " " + seed + ";weights 100;" + shop + shop + shop + shop);
    }

    private static void inspectorsFollowComplaints() {
        HonestScales x = fourShops(3, 5);
        Check.script(x, "complain 1;complain 3;complain 3;complain 2;");
        Check.due("nextVisited", x.nextVisited(), 3);
        Check.due("passDays", x.passDays(1), 3);
        Check.due("seed", x.seed(), 5);
        Check.due("visited", x.latestVisit(0) + "/" + x.latestVisit(1) + "/" + x.latestVisit(2) + "/" + x.latestVisit(3), "-1/1/1/1");
        Check.due("complaints", x.complaints(1) + x.complaints(2) + x.complaints(3), 0);
        x.setInspectors(1);
        Check.script(x, "complain 2;complain 1;");
        x.passDays(1);
        Check.due("the smallest among equals", x.latestVisit(1) + "/" + x.latestVisit(2), "2/1");
        Check.due("visits", x.visits(), 4);
    }

    private static void inspectorsFollowTheSeed() {
        for (int seed = 0; seed <= 65536; seed += seed < 300 || seed > 65520 ? 1 : 997) {
            HonestScales x = fourShops(3, seed);
            boolean[] visited = new boolean[4];
            long due = seed;
            for (int i = 0; i < 3; i++) {
                due = (75 * due + 74) % 65537;
                int first = (int) (due % 4);
                while (visited[first]) {
                    first = (first + 1) % 4;
                }
                visited[first] = true;
            }
            x.passDays(1);
            Check.due("seed after " + seed, (long) x.seed(), due);
            for (int shop = 0; shop < 4; shop++) {
                Check.due("visited " + shop + " after seed " + seed, x.latestVisit(shop), visited[shop] ? 1 : -1);
            }
        }
        HonestScales x = fourShops(1, 65536);
        x.passDays(3);
        Check.due("the seed that stays", x.seed(), 65536);
    }

    private static void inspectorsStopWhenNobodyIsLeft() {
        String shop = "shop 100 500 50 5 1000 0 0 0;";
        HonestScales x = Check.setup("bureau 0 0 10 99 50 3 0;weights 100;" + shop + shop);
        Check.due("two shops, three inspectors", x.passDays(1), 2);
        Check.due("seed", x.seed(), (75 * 74 + 74) % 65537);
        Check.due("two days", x.passDays(2), 4);
        x.setInspectors(0);
        int seed = x.seed();
        for (int i = 0; i < 2; i++) {
            Check.script(x, "days 100;visit 0;days 100;visit 0;days 100;visit 0;");
        }
        Check.due("closed", x.isOpen(0), false);
        x.setInspectors(3);
        Check.due("seed without inspectors", x.seed(), seed);
        Check.due("one open shop", x.passDays(1), 1);
        Check.due("the closed one is not visited", x.latestVisit(0) < x.day(), true);
        x.setInspectors(0);
        Check.script(x, "days 100;visit 1;days 100;visit 1;days 100;visit 1;");
        Check.due("closed", x.isOpen(1), false);
        x.setInspectors(3);
        seed = x.seed();
        Check.due("no open shop", x.passDays(100), 0);
        Check.due("the seed does not change", x.seed(), seed);
        HonestScales y = fourShops(1, 3);
        y.visit(2);
        Check.due("visited on the day before", y.passDays(1), 1);
    }

    private static void passDaysRange() {
        HonestScales x = new HonestScales();
        for (int count : new int[] {0, -1, 101, Integer.MAX_VALUE, Integer.MIN_VALUE}) {
            Check.dueThrow("passDays(" + count + ")", Check.ARGUMENT, () -> x.passDays(count));
        }
        Check.due("passDays(100)", x.passDays(100), 100);
        Check.due("day", x.day(), 100);
        Check.due("visits", x.visits(), 100);
    }

    private static void visitFines() {
        // The bound for 100 grams is 7: an excess of 0, 1, 28, 29, 56, 57 grams.
        visitFine(507, 0, 0);
        visitFine(508, 0, 11);
        visitFine(535, 0, 11);
        visitFine(536, 0, 22);
        visitFine(465, 0, 11);
        visitFine(464, 0, 22);
        visitFine(563, 0, 22);
        visitFine(564, 0, 33);
        visitFine(507, 1, 55);
        visitFine(564, 1, 88);
        HonestScales x = new HonestScales();
        Check.dueNoSuchShop("visit", x, x::visit);
    }

    private static void visitFine(int offset, int days, int fine) {
        HonestScales x = Check.setup("bureau 2 50 11 3 1 0 0;weights 100;shop 20 " + offset + " 50 5 1000 0 0 0;shop 1 500 50 5 1 0 0 0;");
        if (days > 0) {
            x.passDays(days);
        }
        Check.due("fineIfVisited at " + offset, x.fineIfVisited(0), fine);
        Check.due("visit at " + offset, x.visit(0), fine);
        Check.due("purse", x.purse(0), 20 - fine);
        Check.due("bureau", x.bureauCoins(), fine);
        Check.due("fines", x.finesOf(0), fine);
        Check.due("failures", x.failures(0), fine > 0 ? 1 : 0);
        Check.due("stamp", x.stampedUntil(0), days + 3);
        Check.due("latest visit", x.latestVisit(0), days);
        Check.due("offset", x.offset(0), fine == 0 || fine == 55 ? offset - 500 : 0);
        Check.due("the other shop", x.finesOf(1) + x.failures(1) + x.stampedUntil(1), 0);
        Check.due("visits", x.visits(), 1);
        Check.due("coinError", x.coinError(), 0);
    }

    private static void visitStraightensAndStamps() {
        HonestScales x = Check.setup("bureau 10 0 0 7 1 0 0;weights 100 2000;shop 0 505 52 6 1000 0 0 0;shop 0 505 53 6 1000 0 0 0;");
        x.complain(0);
        Check.due("a true scale", x.visit(0), 0);
        Check.due("it stays as it is", x.offset(0) + "/" + x.slope(0), "5/2");
        Check.due("complaints", x.complaints(0), 0);
        Check.due("failures", x.failures(0), 0);
        Check.due("without a fee", x.visit(1), 0);
        Check.due("it fails all the same", x.failures(1), 1);
        Check.due("straight", x.offset(1) + "/" + x.slope(1) + "/" + x.drift(1), "0/0/1");
        x.complain(1);
        Check.due("once more on this day", x.visit(1), 0);
        Check.due("complaints", x.complaints(1), 0);
        Check.due("it does not fail again", x.failures(1), 1);
        x.passDays(7);
        Check.due("the last day of the stamp", x.isStamped(0), true);
        x.setFee(3);
        Check.due("one ounce, no stamp to pay for", x.visit(0), 3);
        Check.due("stamp", x.stampedUntil(0), 14);
        x.passDays(1);
        Check.due("the stamp is over", x.visit(1), 15);
        Check.due("failures", x.failures(1), 2);
    }

    private static void thirdFailureCloses() {
        HonestScales x = Check.setup("bureau 0 0 1 1 50 0 0;weights 100;shop 100 500 50 5 1000 50 20 0;shop 0 500 50 5 1 0 0 0;");
        for (int i = 1; i <= 3; i++) {
            Check.due("open", x.isOpen(0), true);
            x.passDays(2);
            Check.due("visit", x.visit(0), 5);
            Check.due("failures", x.failures(0), i);
        }
        Check.due("open", x.isOpen(0), false);
        Check.due("open shops", x.openShops(), 1);
        int gains = x.gainsOf(0);
        x.passDays(1);
        Check.due("a closed shop sells nothing", x.gainsOf(0), gains);
        Check.dueThrow("visit", Check.STATE, () -> x.visit(0));
        Check.due("visits", x.visits(), 3);
    }

    private static void repairs() {
        HonestScales x = Check.setup("bureau 0 0 1 1 50 0 0;weights 100;shop 10 400 70 6 1000 5 0 0;shop 9 600 50 5 1 0 0 0;shop 99 500 50 5 1 0 0 0;");
        Check.due("repair with 10 coins", x.repair(0), 0);
        Check.due("straight", x.offset(0) + "/" + x.slope(0) + "/" + x.drift(0), "0/0/1");
        Check.due("bureau", x.bureauCoins(), 10);
        Check.due("no fine", x.finesOf(0) + x.visits() + x.failures(0), 0);
        Check.due("no stamp", x.stampedUntil(0), 0);
        Check.dueThrow("repair with 9 coins", Check.STATE, () -> x.repair(1));
        Check.dueThrow("repair with no coins", Check.STATE, () -> x.repair(0));
        Check.due("repair of a true scale", x.repair(2), 89);
        Check.due("bureau", x.bureauCoins(), 20);
        Check.due("coinError", x.coinError(), 0);
        Check.dueNoSuchShop("repair", x, x::repair);
        Check.script(x, "days 2;visit 2;days 2;visit 2;days 2;visit 2;");
        Check.due("purse of a closed shop", x.purse(2) >= 10 && !x.isOpen(2), true);
        Check.dueThrow("repair of a closed shop", Check.STATE, () -> x.repair(2));
        HonestScales y = Check.setup("bureau 20 0 1 1 50 0 0;weights 100;shop 10 511 50 5 1 0 0 0;");
        Check.due("a true scale that is not straight", y.isTrue(0), true);
        y.repair(0);
        Check.due("becomes straight too", y.offset(0), 0);
    }

    private static void thumbs() {
        HonestScales x = new HonestScales();
        Check.due("setThumb", x.setThumb(0, 100), 20);
        Check.due("setThumb", x.setThumb(0, 0), 100);
        Check.due("thumb", x.thumb(0), 0);
        Check.due("setThumb", x.setThumb(2, 1), 0);
        Check.due("thumb", x.thumb(2), 1);
        for (int grams : new int[] {-1, 101, Integer.MAX_VALUE, Integer.MIN_VALUE}) {
            Check.dueThrow("setThumb(1, " + grams + ")", Check.ARGUMENT, () -> x.setThumb(1, grams));
        }
        Check.dueNoSuchShop("setThumb", x, shop -> x.setThumb(shop, 1));
        Check.dueNoSuchShop("setThumb with both wrong", x, shop -> x.setThumb(shop, 101));
        x.setInspectors(0);
        Check.script(x, "days 20;visit 1;days 20;visit 1;days 20;visit 1;");
        Check.due("closed", x.isOpen(1), false);
        Check.due("setThumb of a closed shop", x.setThumb(1, 9), 0);
        Check.due("thumb", x.thumb(1), 9);
    }

    private static void complaintsOfCustomers() {
        HonestScales x = new HonestScales();
        for (int i = 1; i <= 30; i++) {
            Check.due("complain", x.complain(1), i);
        }
        Check.due("complaints", x.complaints(0) + "/" + x.complaints(1) + "/" + x.complaints(2), "0/30/0");
        Check.dueNoSuchShop("complain", x, x::complain);
        x.setInspectors(0);
        Check.script(x, "days 20;visit 2;days 20;visit 2;days 20;visit 2;");
        Check.dueThrow("complain about a closed shop", Check.STATE, () -> x.complain(2));
    }

    private static void reopening() {
        HonestScales x = new HonestScales();
        Check.dueThrow("reopen an open shop", Check.STATE, () -> x.reopen(0));
        Check.dueNoSuchShop("reopen", x, x::reopen);
        x.setInspectors(0);
        Check.script(x, "days 20;visit 2;visit 1;days 20;visit 2;visit 1;days 20;visit 2;visit 1;");
        Check.due("failures", x.failures(1) + "/" + x.failures(2), "3/3");
        int latest = x.latestVisit(1);
        int fines = x.finesOf(1);
        int stamp = x.stampedUntil(1);
        Check.due("reopen", x.reopen(1), 2);
        Check.due("failures", x.failures(1) + "/" + x.failures(2), "0/3");
        Check.due("nothing else", x.latestVisit(1) + "/" + x.finesOf(1) + "/" + x.stampedUntil(1), latest + "/" + fines + "/" + stamp);
        Check.due("reopen", x.reopen(2), 3);
        Check.dueThrow("reopen twice", Check.STATE, () -> x.reopen(2));
        Check.due("it can be visited", x.visit(2), 0);
    }

    private static void inspectorsAndFee() {
        HonestScales x = new HonestScales();
        Check.due("setInspectors", x.setInspectors(3), 1);
        Check.due("setInspectors", x.setInspectors(0), 3);
        Check.due("inspectors", x.inspectors(), 0);
        Check.due("setFee", x.setFee(99), 4);
        Check.due("setFee", x.setFee(0), 99);
        Check.due("fee", x.fee(), 0);
        for (int wrong : new int[] {-1, Integer.MAX_VALUE, Integer.MIN_VALUE}) {
            Check.dueThrow("setInspectors(" + wrong + ")", Check.ARGUMENT, () -> x.setInspectors(wrong));
            Check.dueThrow("setFee(" + wrong + ")", Check.ARGUMENT, () -> x.setFee(wrong));
        }
        Check.dueThrow("setInspectors(4)", Check.ARGUMENT, () -> x.setInspectors(4));
        Check.dueThrow("setFee(100)", Check.ARGUMENT, () -> x.setFee(100));
        Check.due("changes", x.undo(), 3);
    }

    private static void undoGoesBackEightChanges() {
        HonestScales x = new HonestScales();
        Check.dueThrow("undo", Check.ELEMENT, x::undo);
        for (int i = 0; i <= 20; i++) {
            x.passDays(3);
        }
        for (int left = 7; left >= 0; left--) {
            Check.due("undo", x.undo(), left);
            Check.due("day", x.day(), 3 * (13 + left));
        }
        Check.dueThrow("undo", Check.ELEMENT, x::undo);
        HonestScales y = new HonestScales();
        y.passDays(39);
        Check.due("the state stays", Check.state(x), Check.state(y));
    }

    private static void undoAfterUndo() {
        HonestScales x = new HonestScales();
        x.setFee(1);
        x.setFee(2);
        x.setFee(3);
        Check.due("undo", x.undo(), 2);
        x.setFee(4);
        Check.due("undo", x.undo(), 2);
        Check.due("fee", x.fee(), 2);
        Check.due("undo", x.undo(), 1);
        Check.due("fee", x.fee(), 1);
        Check.due("undo", x.undo(), 0);
        Check.due("fee", x.fee(), 4);
        for (int i = 1; i <= 9; i++) {
            x.setFee(10 + i);
        }
        Check.due("undo", x.undo(), 7);
        Check.due("fee", x.fee(), 18);
    }

    private static void everyChangeIsUndoable() {
        undoes("passDays", x -> x.passDays(1));
        undoes("visit", x -> x.visit(0));
        undoes("repair", x -> x.repair(0));
        undoes("setThumb", x -> x.setThumb(0, 20));
        undoes("complain", x -> x.complain(0));
        undoes("reopen", x -> x.reopen(2));
        undoes("setInspectors", x -> x.setInspectors(0));
        undoes("setFee", x -> x.setFee(4));
        undoes("restoreSnapshot", x -> x.restoreSnapshot(0));
        undoes("runScript", x -> Check.script(x, "days 1;complain 0;"));
        undoes("an empty script", x -> Check.script(x, ""));
        undoes("loadSetup", x -> {
            Check.feed(x, "bureau 0 0 0 1 1 0 0;weights 1;shop 0 500 50 5 1 0 0 0;");
            return x.loadSetup();
        });
    }

    private interface Change {
        Object make(HonestScales x);
    }

    /** On an object with a closed shop and a snapshot. */
    private static void undoes(String what, Change change) {
        HonestScales x = new HonestScales();
        x.setInspectors(0);
        Check.script(x, "days 20;visit 2;days 20;visit 2;days 20;visit 2;");
        x.saveSnapshot(0);
        String before = Check.state(x);
        x.complain(1);
        String between = Check.state(x);
        change.make(x);
        x.undo();
        Check.due("the state before " + what, Check.state(x), between);
        x.undo();
        Check.due("the state before that", Check.state(x), before);
    }

    private static void failedCallsChangeNothing() {
        HonestScales x = new HonestScales();
        x.setInspectors(0);
        Check.script(x, "days 20;visit 2;days 20;visit 2;days 20;visit 2;");
        String before = Check.state(x);
        Check.dueThrow("passDays", Check.ARGUMENT, () -> x.passDays(101));
        Check.dueThrow("visit", Check.STATE, () -> x.visit(2));
        Check.dueThrow("repair", Check.STATE, () -> x.repair(2));
        Check.dueThrow("setThumb", Check.ARGUMENT, () -> x.setThumb(2, 101));
        Check.dueThrow("complain", Check.STATE, () -> x.complain(2));
        Check.dueThrow("reopen", Check.STATE, () -> x.reopen(1));
        Check.dueThrow("setInspectors", Check.ARGUMENT, () -> x.setInspectors(4));
        Check.dueThrow("setFee", Check.ARGUMENT, () -> x.setFee(100));
        Check.dueThrow("restoreSnapshot", Check.ELEMENT, () -> x.restoreSnapshot(1));
        Check.due("the state", Check.state(x), before);
        Check.due("none of them is a change", x.undo(), 1);
    }

    private static void snapshots() {
        HonestScales x = new HonestScales();
        for (int slot : new int[] {-1, 2, Integer.MAX_VALUE, Integer.MIN_VALUE}) {
            Check.dueThrow("restoreSnapshot(" + slot + ")", Check.ARGUMENT, () -> x.restoreSnapshot(slot));
            Check.dueThrow("saveSnapshot(" + slot + ")", Check.ARGUMENT, () -> {
                x.saveSnapshot(slot);
                return "nothing";
            });
        }
        x.passDays(2);
        String two = Check.state(x);
        x.saveSnapshot(0);
        Check.dueThrow("restoreSnapshot(1)", Check.ELEMENT, () -> x.restoreSnapshot(1));
        Check.due("saving is no change", x.undo(), 0);
        x.passDays(7);
        x.saveSnapshot(1);
        String seven = Check.state(x);
        Check.due("restoreSnapshot(0)", x.restoreSnapshot(0), 2);
        Check.due("the state", Check.state(x), two);
        x.passDays(1);
        Check.due("the snapshot stays", x.restoreSnapshot(0), 2);
        Check.due("the state", Check.state(x), two);
        Check.due("restoreSnapshot(1)", x.restoreSnapshot(1), 7);
        Check.due("the state", Check.state(x), seven);
        Check.due("restoring is a change", x.undo(), 4);
        Check.due("the state", Check.state(x), two);
        x.saveSnapshot(1);
        Check.due("in place of the earlier one", x.restoreSnapshot(1), 2);
        x.undo();
        Check.due("undo leaves snapshots alone", x.restoreSnapshot(1), 2);
        snapshotsLeaveTheRestAlone();
    }

    private static void snapshotsLeaveTheRestAlone() {
        HonestScales x = new HonestScales();
        x.saveSnapshot(0);
        Check.feed(x, "days 5;");
        x.writeShop(0);
        x.passDays(40);
        x.restoreSnapshot(0);
        x.undo();
        Check.due("the output stays", Check.output(x, 5), "100ts");
        Check.due("the buffer stays", x.runScript(), 1);
        Check.due("day", x.day(), 45);
    }
}
