/** The edges in "Terms" of the steps in which a day passes. */
final class TermsOfDays {
    private static final int SEED_BEFORE_0 = 45438;

    static void test() {
        Check.each(
            TermsOfDays::dayGrowsByOne,
            TermsOfDays::offsetsStayWithin,
            TermsOfDays::salesInTheirOrder,
            TermsOfDays::asManyVisitsAsInspectors,
            TermsOfDays::whoCanBeVisited,
            TermsOfDays::mostComplaintsFirst,
            TermsOfDays::theSeed,
            TermsOfDays::nobodyCanBeVisited,
            TermsOfDays::fiveHundredAndTwelveCalls);
    }

    private static void dayGrowsByOne() {
        Sentence.of(Sentence.TERMS, "The day (0 at the beginning) grows by 1.");
        HonestScales x = new HonestScales();
        Check.due("at the beginning", x.day(), 0);
        x.passDays(1);
        Check.due("one day", x.day(), 1);
        x.passDays(100);
        Check.due("a hundred more", x.day(), 101);
        Check.due("at the beginning of a setup", Make.quiet(Make.PLAIN).day(), 0);
    }

    private static void offsetsStayWithin() {
        Sentence.of(Sentence.TERMS, "The offset of each scale changes by its drift, but it stays within -500 and 500.");
        HonestScales x = Make.quiet("0 994 50 10 1 0 0 0", "0 995 50 10 1 0 0 0", "0 996 50 10 1 0 0 0", "0 6 50 0 1 0 0 0", "0 5 50 0 1 0 0 0", "0 4 50 0 1 0 0 0",
            "0 1000 50 0 1 0 0 0", "0 500 50 5 1 0 0 0");
        x.passDays(1);
        Check.due("up", x.offset(0) + "/" + x.offset(1) + "/" + x.offset(2), "499/500/500");
        Check.due("down", x.offset(3) + "/" + x.offset(4) + "/" + x.offset(5), "-499/-500/-500");
        Check.due("away from 500", x.offset(6), 495);
        Check.due("without a drift", x.offset(7), 0);
        x.passDays(1);
        Check.due("after two days", x.offset(0) + "/" + x.offset(1) + "/" + x.offset(3) + "/" + x.offset(4), "500/500/-500/-500");
        x.passDays(100);
        x.passDays(98);
        Check.due("down to 500 - 5 * 200", x.offset(6), -500);
        Check.due("the drift stays", x.drift(0) + "/" + x.drift(3) + "/" + x.drift(6), "5/-5/-5");
        HonestScales closed = Make.quiet("0 500 50 6 1 0 0 0");
        Make.close(closed, 0);
        closed.passDays(9);
        Check.due("a closed shop's scale drifts too", closed.offset(0), 9);
    }

    private static void salesInTheirOrder() {
        Sentence.of(Sentence.TERMS, "The open shops make their sales, in ascending order.");
        // Behind the drift: 51 grams and a complaint, where there were 50; and before the visit that straightens the scale.
        HonestScales x = Make.bureau("0 0 1 9 50 1 0", "1", "0 500 50 5 1000 20 0 0", "0 550 50 6 1000 20 0 0", "0 500 50 5 1000 20 100 30");
        x.passDays(1);
        Check.due("gains", x.gainsOf(0) + "/" + x.gainsOf(1) + "/" + x.gainsOf(2), "0/51/100");
        Check.due("the visit of the first with a complaint of this day", x.latestVisit(0) + "/" + x.latestVisit(1) + "/" + x.latestVisit(2), "-1/1/-1");
        Check.due("complaints of this day", x.complaints(1) + "/" + x.complaints(2), "0/1");
        Check.due("the fine for 51 grams, and for the stamp", x.finesOf(1), 7);
        Check.due("straight behind it", x.offset(1), 0);
    }

    private static void asManyVisitsAsInspectors() {
        Sentence.of(Sentence.TERMS, "The bureau makes as many visits as there are inspectors (0 to 3), one after another.");
        for (int inspectors = 0; inspectors <= 3; inspectors++) {
            HonestScales x = Texts.taken(Make.text("0 0 1 9 1 " + inspectors + " 0", "1", Make.plain(4)));
            Check.due("visits of a day", x.passDays(1), inspectors);
            int visited = 0;
            for (int shop = 0; shop < 4; shop++) {
                visited += x.latestVisit(shop) == 1 ? 1 : 0;
            }
            Check.due("shops that were visited", visited, inspectors);
            Check.due("visits", x.visits(), inspectors);
            Check.due("visits of two days", x.passDays(2), 2 * inspectors);
        }
        Texts.bureauNumberRefused("0 0 0 1 1 ", "4", " 0");
    }

    private static void whoCanBeVisited() {
        Sentence.of(Sentence.TERMS, "Only open shops that were not visited on this day can be visited.");
        HonestScales x = Make.bureau("0 0 1 9 1 3 0", "1", Make.plain(2));
        Check.due("two shops, three inspectors", x.passDays(1), 2);
        Check.due("those of yesterday can be visited", x.passDays(1), 2);
        x.visit(0);
        x.complain(0);
        Check.due("those that were visited by hand on the day before too", x.passDays(1), 2);
        HonestScales y = Make.quiet(Make.plain(3));
        Make.close(y, 1);
        y.setInspectors(3);
        Check.due("three shops, one of them closed", y.passDays(1), 2);
        Check.due("the latest visits", y.latestVisit(0) + "/" + y.latestVisit(1) + "/" + y.latestVisit(2), "7/6/7");
        // The first visit of day 1 is the third failure of shop 0; the second one is for another shop.
        HonestScales z = Make.quiet("0 500 50 5 1 0 0 0", "0 500 50 5 1 0 0 0");
        Check.script(z, "days 2;visit 0;days 2;visit 0;days 1;complain 0;complain 0;complain 1;");
        z.setInspectors(2);
        Check.due("one closes, the other one is visited", z.passDays(1), 2);
        Check.due("closed", z.isOpen(0) + "/" + z.latestVisit(1), "false/6");
        Check.due("only one is left", z.passDays(1), 1);
    }

    private static void mostComplaintsFirst() {
        Sentence.of(Sentence.TERMS, "If at least one of these has complaints, the one with the most complaints is visited (the smallest index among equals).");
        // By the seed, shop 74 % 4 = 2 would be visited.
        visitedDue("complain 1;", 1);
        visitedDue("complain 3;", 3);
        visitedDue("complain 0;complain 3;complain 3;", 3);
        visitedDue("complain 0;complain 0;complain 3;", 0);
        visitedDue("complain 3;complain 1;", 1);
        visitedDue("complain 3;complain 0;complain 1;complain 2;", 0);
        visitedDue("complain 3;complain 3;complain 1;complain 1;complain 0;", 1);
        visitedDue("complain 1;visit 1;complain 3;", 3);
        HonestScales x = Make.quiet(Make.plain(4));
        Check.script(x, "complain 3;complain 3;complain 1;");
        x.setInspectors(3);
        x.passDays(1);
        Check.due("by complaints, then by the seed", x.latestVisit(0) + "/" + x.latestVisit(1) + "/" + x.latestVisit(2) + "/" + x.latestVisit(3), "-1/1/1/1");
        Check.due("the seed for one of three", x.seed(), 74);
    }

    private static void visitedDue(String complaints, int shop) {
        HonestScales x = Make.quiet(Make.plain(4));
        Check.script(x, complaints);
        x.setInspectors(1);
        x.passDays(1);
        Check.due("visited after " + complaints, x.latestVisit(shop), 1);
        Check.due("the seed after " + complaints, x.seed(), 0);
    }

    private static void theSeed() {
        Sentence.of(Sentence.TERMS, "Otherwise the seed (0 to 65536) becomes (75 * seed + 74) modulo 65537, and the shops are looked at in ascending order, beginning with shop seed modulo number of shops, and with shop 0 after the last one; the first shop that can be visited is visited.");
        seedDue(0, 74);
        seedDue(1, 149);
        seedDue(872, 65474);
        seedDue(873, 12);
        seedDue(65535, 65461);
        seedDue(65536, 65536);
        seedDue(SEED_BEFORE_0, 0);
        Texts.bureauNumberRefused("0 0 0 1 1 0 ", "65537", "");
        // 149 is odd: the search begins with shop 1, the last one of two.
        HonestScales x = Make.bureau("0 0 1 9 1 2 1", "1", Make.plain(2));
        x.passDays(1);
        Check.due("11249 is odd too, but shop 1 was visited: shop 0 after the last one", x.latestVisit(0) + "/" + x.latestVisit(1) + "/" + x.seed(), "1/1/11249");
        HonestScales y = Make.bureau("0 0 1 1 1 0 1", "1", Make.plain(2));
        Make.close(y, 1);
        y.setInspectors(1);
        y.passDays(1);
        Check.due("shop 1 is closed: shop 0 after the last one", y.latestVisit(0) + "/" + y.seed(), "7/149");
        HonestScales z = Make.bureau("0 0 1 1 1 0 0", "1", Make.plain(4));
        Make.close(z, 2);
        z.setInspectors(1);
        z.passDays(1);
        Check.due("shop 2 is closed: shop 3 next", z.latestVisit(3), 7);
        HonestScales w = Make.bureau("0 0 1 1 1 0 1", "1", Make.plain(4));
        Make.close(w, 3);
        w.setInspectors(1);
        w.passDays(1);
        Check.due("149 % 4 is 1: closed shops are counted too", w.latestVisit(1), 7);
    }

    private static void seedDue(int seed, int due) {
        for (int shops = 1; shops <= 8; shops++) {
            HonestScales x = Texts.taken(Make.text("0 0 1 9 1 1 " + seed, "1", Make.plain(shops)));
            x.passDays(1);
            Check.due("the seed after " + seed, x.seed(), due);
            Check.due("visited after " + seed + " of " + shops, x.latestVisit(due % shops), 1);
            Check.due("visits after " + seed + " of " + shops, x.visits(), 1);
        }
    }

    private static void nobodyCanBeVisited() {
        Sentence.of(Sentence.TERMS, "If no shop can be visited, there is no visit, and the seed does not change.");
        HonestScales x = Make.closed(1, 0);
        x.setInspectors(3);
        Check.due("the only shop is closed", x.passDays(100) + "/" + x.seed() + "/" + x.visits(), "0/0/3");
        HonestScales y = Make.bureau("0 0 1 9 1 3 0", "1", Make.PLAIN);
        Check.due("one shop, three inspectors", y.passDays(1) + "/" + y.seed() + "/" + y.visits(), "1/74/1");
        Check.due("the next day", y.passDays(1) + "/" + y.seed() + "/" + y.visits(), "1/5624/2");
        HonestScales z = Make.bureau("0 0 1 9 1 3 0", "1", Make.PLAIN);
        z.complain(0);
        Check.due("visited for its complaint", z.passDays(1) + "/" + z.seed(), "1/0");
    }

    /** About the most days that 512 calls reach: 8 calls for the setup, 9 for each 2000 days, and 18 for the questions. */
    private static void fiveHundredAndTwelveCalls() {
        Sentence.of("What it is", "An object is used for at most 512 calls after it has been made; what later calls answer is free.");
        HonestScales x = Make.bureau("0 0 99 99 50 0 0", "1", "9999 1000 100 10 5000 50 100 30", "0 0 0 0 5000 50 0 30");
        int days = 0x64617973;
        int hundred = 0x3130303b;
        for (int round = 0; round < 54; round++) {
            for (int part = 0; part < 4; part++) {
                x.append(days, hundred, days, hundred, days);
                x.append(hundred, days, hundred, days, hundred);
            }
            x.runScript();
        }
        int passed = 54 * 2000;
        Check.due("day", x.day(), passed);
        Check.due("purses", x.purse(0) + "/" + x.purse(1), (9999 + passed * 2125) + "/" + -passed * 1875);
        Check.due("gains", x.gainsOf(0) + "/" + x.gainsOf(1), passed * 2125 + "/" + -passed * 1875);
        Check.due("complaints", x.complaints(0) + "/" + x.complaints(1), passed + "/0");
        Check.due("coinError", x.coinError(), 0);
        for (int left = 7; left >= 0; left--) {
            Check.due("undo", x.undo(), left);
        }
        Check.due("the 511th call", x.day(), passed - 8 * 2000);
        Check.due("the 512th call", x.purse(0), 9999 + (passed - 8 * 2000) * 2125);
    }

    private TermsOfDays() {
    }
}
