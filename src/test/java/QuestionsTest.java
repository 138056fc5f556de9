/** Promises 49 to 60: questions, after which nothing has changed. */
public final class QuestionsTest {
    public static void main(String[] args) {
        thumbsAndCaution();
        finesIfVisited();
        reasonsToFail();
        nextGains();
        nextVisits();
        daysUntilScalesAreFalse();
        pursesAfterSomeDays();
        bestThumbs();
        mostFinedShops();
        ouncesOfExcess();
        expiringStamps();
        daysUntilShopsAreClosed();
        nothingChanges();
        Check.end();
    }

    private static void thumbsAndCaution() {
        HonestScales x = Check.setup("bureau 0 0 1 1 1 0 0;weights 1;shop 0 500 50 5 1 0 9 2;shop 0 500 50 5 1 0 0 0;");
        Check.due("never visited", x.usesThumb(0), true);
        x.visit(0);
        x.visit(1);
        Check.due("a caution of 0", x.usesThumb(1), true);
        boolean[] due = {false, false, true, true};
        for (int day = 0; day < 4; day++) {
            Check.due("usesThumb on day " + day, x.usesThumb(0), due[day]);
            x.passDays(1);
        }
        Check.script(x, "visit 0;days 3;visit 0;");
        Check.due("closed", x.isOpen(0), true);
        Check.script(x, "days 2;visit 0;days 2;visit 0;");
        Check.due("closed", x.isOpen(0), false);
        Check.due("a closed shop, cautious", x.usesThumb(0), x.latestVisit(0) + 2 < x.day() + 1);
        x.passDays(9);
        Check.due("a closed shop", x.usesThumb(0), true);
        Check.dueNoSuchShop("usesThumb", x, x::usesThumb);
    }

    private static void finesIfVisited() {
        HonestScales x = Check.setup("bureau 0 0 7 3 1 0 0;weights 1;shop 0 529 50 5 1 0 0 0;shop 0 500 50 5 1 0 0 0;");
        Check.due("two ounces", x.fineIfVisited(0), 14);
        Check.due("none", x.fineIfVisited(1), 0);
        x.passDays(1);
        Check.due("two ounces and the stamp", x.fineIfVisited(0), 49);
        Check.due("the stamp", x.fineIfVisited(1), 35);
        x.setFee(0);
        Check.due("no fee", x.fineIfVisited(0), 0);
        x.setFee(2);
        Check.due("as visit", x.fineIfVisited(0), x.visit(0));
        Check.due("after the visit", x.fineIfVisited(0), 0);
        Check.dueNoSuchShop("fineIfVisited", x, x::fineIfVisited);
    }

    private static void reasonsToFail() {
        HonestScales x = Check.setup("bureau 0 0 7 3 1 0 0;weights 1;shop 0 529 50 5 1 0 0 0;shop 0 500 50 5 1 0 0 0;");
        Check.due("whyFail", x.whyFail(0) + "/" + x.whyFail(1), "1/0");
        x.passDays(1);
        Check.due("whyFail", x.whyFail(0) + "/" + x.whyFail(1), "3/2");
        x.visit(0);
        Check.due("whyFail", x.whyFail(0), 0);
        Check.dueNoSuchShop("whyFail", x, x::whyFail);
    }

    private static void nextGains() {
        HonestScales x = Check.setup("bureau 0 0 7 3 50 0 0;weights 1;shop 0 500 50 6 1 20 4 1;shop 0 1000 50 10 1 20 0 0;shop 0 470 50 5 1 1 0 0;");
        Check.due("with the drift and the thumb", x.nextGain(0), 5);
        Check.due("within 500 grams", x.nextGain(1), 500);
        Check.due("towards zero", x.nextGain(2), -1);
        x.visit(0);
        Check.due("without the thumb", x.nextGain(0), 1);
        Check.script(x, "days 4;visit 2;days 4;visit 2;days 4;visit 2;");
        x.setThumb(2, 100);
        Check.due("a closed shop", x.nextGain(2), 0);
        x.reopen(2);
        Check.due("open again", x.nextGain(2), 5);
        Check.dueNoSuchShop("nextGain", x, x::nextGain);
    }

    private static void nextVisits() {
        String shop = "shop 0 500 50 5 1000 0 0 0;";
        HonestScales x = Check.setup("bureau 0 0 7 3 50 1 0;weights 1;" + shop + shop + shop);
        Check.due("by the seed", x.nextVisited(), 74 % 3);
        Check.due("the seed stays", x.seed(), 0);
        x.passDays(1);
        Check.due("visited", x.latestVisit(74 % 3), 1);
        x.complain(0);
        Check.due("by complaints", x.nextVisited(), 0);
        x.setInspectors(0);
        Check.due("no inspector", x.nextVisited(), HonestScales.NONE);
        // Complaints of the next day count: shop 1 sells 100 false grams.
        HonestScales y = Check.setup("bureau 0 0 7 3 50 1 3;weights 1;" + shop + "shop 0 500 50 5 1000 1 100 0;" + shop);
        Check.due("complaints to come", y.nextVisited(), 1);
        // So does the drift: 50 grams now, 51 on the next day.
        HonestScales z = Check.setup("bureau 0 0 7 3 50 1 3;weights 1;" + shop + shop + shop + "shop 0 550 50 6 1000 1 0 0;");
        Check.due("complaints to come by drift", z.nextVisited(), 3);
        z.visit(3);
        Check.due("straight by now", z.nextVisited(), (75 * 3 + 74) % 4);
        nobodyToVisit();
    }

    private static void nobodyToVisit() {
        HonestScales x = Check.setup("bureau 0 0 7 3 50 0 0;weights 1;shop 0 500 50 5 1000 0 0 0;");
        Check.script(x, "days 4;visit 0;days 4;visit 0;days 4;visit 0;");
        x.setInspectors(3);
        Check.due("all are closed", x.nextVisited(), HonestScales.NONE);
        x.reopen(0);
        Check.due("visited today, but not tomorrow", x.nextVisited(), 0);
    }

    private static void daysUntilScalesAreFalse() {
        String head = "bureau 10 0 1 1 1 0 0;weights 1;";
        HonestScales x = Check.setup(head + "shop 0 500 50 6 1 0 0 0;shop 0 510 50 6 1 0 0 0;shop 0 511 50 5 1 0 0 0;"
            + "shop 0 500 50 5 1 0 0 0;shop 0 510 50 0 1 0 0 0;shop 0 505 50 3 1 0 0 0;");
        int[] due = {11, 1, 0, HonestScales.NONE, 5, 8};
        for (int shop = 0; shop < due.length; shop++) {
            Check.due("daysUntilFalse(" + shop + ")", x.daysUntilFalse(shop), due[shop]);
        }
        // The widest that there is: a bound of 300, and 5000 * 50 / 1000 = 250 grams from the slope.
        HonestScales z = Check.setup("bureau 50 50 1 1 1 0 0;weights 5000;shop 0 450 100 6 1 0 0 0;shop 0 550 0 4 1 0 0 0;shop 0 0 100 6 1 0 0 0;");
        Check.due("up from -50", z.daysUntilFalse(0), 101);
        Check.due("down", z.daysUntilFalse(1), 101);
        Check.due("up from -500", z.daysUntilFalse(2), 551);
        Check.due("still of that day", z.offset(0), -50);
        Check.dueNoSuchShop("daysUntilFalse", x, x::daysUntilFalse);
    }

    private static void pursesAfterSomeDays() {
        HonestScales x = new HonestScales();
        for (int days = 0; days <= 200; days += days < 12 ? 1 : 47) {
            for (int shop = 0; shop < 3; shop++) {
                HonestScales y = new HonestScales();
                for (int i = 0; i < days; i++) {
                    y.passDays(1);
                }
                Check.due("purseAfter(" + shop + ", " + days + ")", x.purseAfter(shop, days), y.purse(shop));
            }
        }
        Check.due("purseAfter(2, 200)", x.purseAfter(2, 200), afterTwoHundred(2));
        for (int wrong : new int[] {-1, 201, Integer.MAX_VALUE, Integer.MIN_VALUE}) {
            Check.dueThrow("purseAfter(0, " + wrong + ")", Check.ARGUMENT, () -> x.purseAfter(0, wrong));
            Check.dueNoSuchShop("purseAfter, both wrong", x, shop -> x.purseAfter(shop, wrong));
        }
        Check.dueNoSuchShop("purseAfter", x, shop -> x.purseAfter(shop, 1));
    }

    private static int afterTwoHundred(int shop) {
        HonestScales y = new HonestScales();
        y.passDays(100);
        y.passDays(100);
        return y.purse(shop);
    }

    private static void bestThumbs() {
        // Without inspectors the largest thumb is the best; with no sales, or closed, all are equal.
        HonestScales x = Check.setup("bureau 0 0 9 5 50 0 0;weights 1;shop 0 500 50 5 1000 20 3 0;shop 0 500 50 5 1000 0 3 0;"
            + "shop 0 500 50 5 1000 20 3 30;");
        Check.due("the largest", x.bestThumb(0, 1), 100);
        Check.due("no sales", x.bestThumb(1, 50), 0);
        x.visit(2);
        Check.due("never used", x.bestThumb(2, 30), 0);
        Check.due("used on the last day", x.bestThumb(2, 31), 100);
        Check.script(x, "days 6;visit 0;days 6;visit 0;days 6;visit 0;");
        Check.due("closed", x.bestThumb(0, 50), 0);
        // From 55 grams on customers complain, and a visit costs more than it gains.
        String three = "bureau 0 0 99 99 50 1 65536;weights 1;shop 0 500 50 5 1000 20 3 0;shop 0 600 50 5 1000 1 0 0;"
            + "shop 0 500 50 5 1000 20 3 0;";
        for (int days = 1; days <= 100; days += 9) {
            for (int shop = 0; shop < 3; shop++) {
                HonestScales y = Check.setup(three);
                Check.due("bestThumb(" + shop + ", " + days + ")", y.bestThumb(shop, days), bestByTrial(y, shop, days));
            }
        }
        Check.due("thumbs that earn the same", Check.setup("bureau 0 0 0 9 1 0 0;weights 1;shop 0 500 50 5 1000 10 0 0;").bestThumb(0, 7), 100);
        Check.due("100 grams are due for a coin", Check.setup("bureau 0 0 0 9 1 0 0;weights 1;shop 0 500 50 5 1000 12 0 0;").bestThumb(0, 7), 85);
        for (int wrong : new int[] {0, -1, 101, Integer.MAX_VALUE, Integer.MIN_VALUE}) {
            Check.dueThrow("bestThumb(0, " + wrong + ")", Check.ARGUMENT, () -> x.bestThumb(0, wrong));
            Check.dueNoSuchShop("bestThumb, both wrong", x, shop -> x.bestThumb(shop, wrong));
        }
        Check.dueNoSuchShop("bestThumb", x, shop -> x.bestThumb(shop, 1));
    }

    private static int bestByTrial(HonestScales x, int shop, int days) {
        int best = -1;
        int most = 0;
        for (int grams = 0; grams <= 100; grams += 5) {
            x.setThumb(shop, grams);
            x.passDays(days);
            if (best < 0 || x.purse(shop) > most) {
                best = grams;
                most = x.purse(shop);
            }
            x.undo();
            x.undo();
        }
        return best;
    }

    private static void mostFinedShops() {
        String shop = "shop 0 500 50 5 1 0 0 0;";
        HonestScales x = Check.setup("bureau 0 0 1 1 1 0 0;weights 1;" + shop + "shop 0 540 50 5 1 0 0 0;" + shop + "shop 0 541 50 5 1 0 0 0;");
        Check.due("no fines", x.mostFined(), 0);
        x.visit(3);
        Check.due("one", x.mostFined(), 3);
        x.visit(1);
        Check.due("equal fines", x.finesOf(1) - x.finesOf(3), 0);
        Check.due("the smallest", x.mostFined(), 1);
        x.passDays(2);
        x.visit(2);
        Check.due("the most", x.mostFined(), 2);
        x.visit(0);
        Check.due("the smallest", x.mostFined(), 0);
    }

    private static void ouncesOfExcess() {
        int[] grams = {0, 1, 27, 28, 29, 56, 57, 500};
        int[] due = {0, 1, 1, 1, 2, 2, 3, 18};
        for (int i = 0; i < grams.length; i++) {
            HonestScales x = Check.setup("bureau 0 0 1 1 1 0 0;weights 1;shop 0 " + (500 - grams[i]) + " 50 5 1 0 0 0;");
            Check.due("ounces of " + grams[i], x.ounces(0), due[i]);
        }
        HonestScales x = Check.setup("bureau 0 0 1 1 1 0 0;weights 1 2 3;shop 0 510 50 5 1 0 0 0;");
        Check.due("ounces of the sum", x.ounces(0), 2);
        Check.dueNoSuchShop("ounces", x, x::ounces);
    }

    private static void expiringStamps() {
        String shop = "shop 0 500 50 5 1 0 0 0;";
        HonestScales x = Check.setup("bureau 0 0 1 99 1 0 0;weights 1;" + shop.repeat(4));
        Check.due("expiringStamps(0)", x.expiringStamps(0), 0);
        Check.due("expiringStamps(1)", x.expiringStamps(1), 4);
        Check.due("expiringStamps(200)", x.expiringStamps(200), 4);
        x.visit(1);
        Check.due("expiringStamps(99)", x.expiringStamps(99), 3);
        Check.due("expiringStamps(100)", x.expiringStamps(100), 4);
        x.passDays(5);
        Check.due("those that are over do not count", x.expiringStamps(200), 1);
        Check.due("expiringStamps(94)", x.expiringStamps(94), 0);
        Check.due("expiringStamps(95)", x.expiringStamps(95), 1);
        Check.script(x, "visit 2;days 100;visit 2;days 100;visit 2;");
        Check.due("closed", x.isOpen(2), false);
        Check.due("closed shops count", x.expiringStamps(100), 1);
        for (int wrong : new int[] {-1, 201, Integer.MAX_VALUE, Integer.MIN_VALUE}) {
            Check.dueThrow("expiringStamps(" + wrong + ")", Check.ARGUMENT, () -> x.expiringStamps(wrong));
        }
    }

    private static void daysUntilShopsAreClosed() {
        // One shop, one inspector: a visit a day, and each finds the drift: closed on the third day.
        HonestScales x = Check.setup("bureau 0 0 1 99 1 1 0;weights 1;shop 0 500 50 6 1 0 0 0;");
        for (int days = 3; days >= 0; days--) {
            Check.due("daysUntilClosed", x.daysUntilClosed(0), days);
            Check.due("isOpen", x.isOpen(0), days > 0);
            x.passDays(1);
        }
        x.reopen(0);
        Check.due("daysUntilClosed", x.daysUntilClosed(0), 3);
        x.setInspectors(0);
        Check.due("without inspectors", x.daysUntilClosed(0), HonestScales.NONE);
        Check.dueNoSuchShop("daysUntilClosed", x, x::daysUntilClosed);
        atMostTwoHundredDays();
    }

    /** The scale becomes false late: with an excess from day N on, the third failure comes on day N + 2. */
    private static void atMostTwoHundredDays() {
        for (int base : new int[] {0, 1, 19, 37, 38, 39, 40, 50}) {
            HonestScales x = Check.setup("bureau " + base + " 0 0 99 1 0 0;weights 1;shop 0 500 50 6 1 0 0 0;");
            x.visit(0);
            x.setInspectors(1);
            HonestScales y = Check.setup("bureau " + base + " 0 0 99 1 0 0;weights 1;shop 0 500 50 6 1 0 0 0;");
            y.visit(0);
            y.setInspectors(1);
            int days = 0;
            while (y.isOpen(0) && days < 400) {
                y.passDays(1);
                days++;
            }
            Check.due("daysUntilClosed with " + base, x.daysUntilClosed(0), days);
        }
        HonestScales never = Check.setup("bureau 0 0 0 99 1 1 0;weights 1;shop 0 500 50 5 1 0 0 0;");
        Check.due("never", never.daysUntilClosed(0), HonestScales.NONE);
        HonestScales edge = Check.setup("bureau 50 16 0 99 1 1 0;weights 1000;shop 0 500 50 6 1 0 0 0;");
        // A bound of 66: it fails for the stamp on day 1, then on days 67 and 134.
        Check.due("134 days", edge.daysUntilClosed(0), 134);
        HonestScales last = Check.setup("bureau 50 49 0 99 1 1 0;weights 1000;shop 0 499 50 6 1 0 0 0;");
        // A bound of 99: day 1 for the stamp, day 101, day 201.
        Check.due("201 days", last.daysUntilClosed(0), HonestScales.NONE);
        last.passDays(1);
        Check.due("200 days", last.daysUntilClosed(0), 200);
    }

    private static void nothingChanges() {
        HonestScales x = new HonestScales();
        x.passDays(4);
        String before = Check.state(x);
        x.writeShop(0);
        x.nextVisited();
        x.daysUntilFalse(0);
        x.purseAfter(0, 200);
        x.bestThumb(0, 100);
        x.expiringStamps(200);
        x.daysUntilClosed(1);
        x.meanExcess();
        Check.due("the state", Check.state(x), before);
        Check.due("questions are no changes", x.undo(), 0);
    }
}
