/** The edges of promises 49 to 60: questions, after which nothing has changed. ShopArguments has those of the argument. */
final class PromisesOfQuestions {
    static void test() {
        Check.each(
            PromisesOfQuestions::usesThumb,
            PromisesOfQuestions::fineIfVisited,
            PromisesOfQuestions::whyFail,
            PromisesOfQuestions::nextGain,
            PromisesOfQuestions::nextVisited,
            PromisesOfQuestions::noNextVisit,
            PromisesOfQuestions::daysUntilFalse,
            PromisesOfQuestions::neverFalse,
            PromisesOfQuestions::purseAfter,
            PromisesOfQuestions::bestThumb,
            PromisesOfQuestions::bestOfEquals,
            PromisesOfQuestions::mostFined,
            PromisesOfQuestions::ounces,
            PromisesOfQuestions::expiringStamps,
            PromisesOfQuestions::daysUntilClosed,
            PromisesOfQuestions::notClosedInTime,
            PromisesOfQuestions::nothingChanges);
    }

    private static void usesThumb() {
        Sentence.of(49, "Tells whether a shop would use its thumb on the next day.");
        for (int caution : new int[] {0, 1, 29, 30}) {
            HonestScales x = Make.bureau("0 0 0 99 1 0 0", "1", "0 500 50 5 1 0 9 " + caution);
            Check.due("never visited, a caution of " + caution, x.usesThumb(0), true);
            x.visit(0);
            Check.due("visited today, a caution of " + caution, x.usesThumb(0), caution == 0);
            if (caution > 0) {
                x.passDays(caution);
                Check.due("the day after the last cautious one, " + caution, x.usesThumb(0), true);
                x.undo();
            }
            if (caution > 1) {
                x.passDays(caution - 1);
                Check.due("the last cautious day, " + caution, x.usesThumb(0), false);
            }
        }
        Sentence.of(49, "Returns true if it would use it, whether it is open or not, and whatever its thumb is.");
        HonestScales y = Make.quiet("0 500 50 5 1 0 9 1", "0 500 50 5 1 0 0 0");
        Make.close(y, 0);
        Check.due("closed, and visited today", y.usesThumb(0), false);
        y.passDays(1);
        Check.due("closed", y.isOpen(0) + "/" + y.usesThumb(0), "false/true");
        Check.due("a thumb of 0", y.usesThumb(1), true);
        y.visit(1);
        Check.due("a thumb of 0 and a caution of 0", y.usesThumb(1), true);
    }

    private static void fineIfVisited() {
        Sentence.of(50, "Returns the fine that a shop would pay if it was visited now.");
        for (int offset : new int[] {500, 510, 511, 538, 539, 1000}) {
            for (int days = 0; days < 2; days++) {
                HonestScales x = Make.bureau("10 0 7 1 1 0 0", "1", "0 " + offset + " 50 5 1 0 0 0");
                Check.script(x, days == 0 ? "" : "days 1;");
                Check.due("as visit, offset " + offset + ", day " + days, x.fineIfVisited(0), x.visit(0));
                Check.due("after the visit", x.fineIfVisited(0), 0);
            }
        }
        Sentence.of(50, "Returns the coins; 0 if it would not fail.");
        HonestScales y = Make.bureau("10 0 7 1 1 0 0", "1", "0 510 50 5 1 0 0 0", "0 511 50 5 1 0 0 0");
        Check.due("at the bound, and beyond it", y.fineIfVisited(0) + "/" + y.fineIfVisited(1), "0/7");
        y.passDays(1);
        Check.due("without a stamp", y.fineIfVisited(0) + "/" + y.fineIfVisited(1), "35/42");
        y.setFee(0);
        Check.due("without a fee", y.fineIfVisited(0) + "/" + y.fineIfVisited(1), "0/0");
        HonestScales most = Make.bureau("0 0 99 1 1 0 0", "5000 4999 4998 4997 4996 4995", "0 1000 100 5 1 0 0 0");
        most.passDays(1);
        Check.due("the greatest", most.fineIfVisited(0) + "/" + most.purse(0), "16434/0");
    }

    private static void whyFail() {
        Sentence.of(51, "Tells why a shop would fail if it was visited now.");
        HonestScales x = Make.bureau("10 0 0 1 1 0 0", "1", "0 510 50 5 1 0 0 0", "0 511 50 5 1 0 0 0", "0 489 50 5 1 0 0 0");
        Check.due("at the bound, and beyond it", x.whyFail(0) + "/" + x.whyFail(1) + "/" + x.whyFail(2), "0/1/1");
        Sentence.of(51, "Returns 0 it would not; 1 its scale is not true; 2 its stamp is not valid; 3 both.");
        Check.due("0 and 1", x.whyFail(0) + "/" + x.whyFail(1), "0/1");
        x.passDays(1);
        Check.due("2 and 3, without a fee too", x.whyFail(0) + "/" + x.whyFail(1), "2/3");
        x.visit(0);
        x.visit(1);
        Check.due("after a visit", x.whyFail(0) + "/" + x.whyFail(1), "0/0");
        x.passDays(1);
        Check.due("on the last day of the stamp", x.whyFail(0), 0);
        x.passDays(1);
        Check.due("the day after", x.whyFail(0), 2);
    }

    private static void nextGain() {
        Sentence.of(52, "Returns the gain of a shop on the next day.");
        // Twenty sales at 50 coins: a coin for each false gram, behind the drift of the next day.
        HonestScales x = Make.bureau("0 0 1 99 50 0 0", "1", "0 503 50 6 1000 20 7 1", "0 998 50 10 1000 20 0 0", "0 2 50 0 1000 20 0 0", "0 503 50 6 1000 0 7 1");
        Check.due("with the drift and the thumb", x.nextGain(0), 11);
        Check.due("within 500 and -500", x.nextGain(1) + "/" + x.nextGain(2), "500/-500");
        Check.due("without sales", x.nextGain(3), 0);
        x.visit(0);
        Check.due("cautious", x.nextGain(0), 1);
        x.passDays(1);
        Check.due("the day after the last cautious one", x.gainsOf(0) + "/" + x.nextGain(0), "1/9");
        Sentence.of(52, "Returns the coins, possibly negative; 0 if it is closed.");
        HonestScales y = Make.bureau("0 0 1 1 50 0 0", "1", "0 480 50 5 1000 1 0 0", "0 481 50 5 1000 1 0 0", "0 0 0 5 5000 50 0 0", "0 1000 100 5 5000 50 100 0");
        Check.due("negative, and towards zero", y.nextGain(0) + "/" + y.nextGain(1), "-1/0");
        Check.due("the least and the greatest", y.nextGain(2) + "/" + y.nextGain(3), "-1875/2125");
        Make.close(y, 3);
        y.setThumb(3, 100);
        Check.due("closed", y.nextGain(3), 0);
        y.reopen(3);
        Check.due("open again", y.nextGain(3), 250);
    }

    private static void nextVisited() {
        Sentence.of(53, "Returns the first shop that will be visited on the next day.");
        HonestScales x = Make.bureau("0 0 1 99 1 3 0", "1", Make.plain(4));
        Check.due("by the seed: 74 % 4", x.nextVisited(), 2);
        Check.due("the seed stays", x.seed(), 0);
        Check.script(x, "complain 3;complain 1;");
        Check.due("the smallest of equals", x.nextVisited(), 1);
        x.complain(3);
        Check.due("the most complaints", x.nextVisited(), 3);
        x.visit(3);
        Check.due("its complaints are gone", x.nextVisited(), 1);
        // 51 grams on the next day, where there are 50 now; and a thumb that is used again.
        HonestScales y = Make.bureau("0 0 1 99 1 1 0", "1", Make.PLAIN, Make.PLAIN, Make.PLAIN, "0 550 50 6 1000 1 0 0");
        Check.due("a complaint of the next day, by its drift", y.nextVisited(), 3);
        HonestScales z = Make.bureau("0 0 1 99 1 1 0", "1", Make.PLAIN, "0 500 50 5 1000 1 51 1", Make.PLAIN);
        z.visit(1);
        Check.due("cautious tomorrow: by the seed", z.nextVisited(), 74 % 3);
        z.setInspectors(0);
        z.passDays(1);
        z.setInspectors(1);
        Check.due("a complaint of the next day, by its thumb", z.nextVisited(), 1);
        z.passDays(1);
        Check.due("so it was", z.latestVisit(1), 2);
        Sentence.of(53, "Returns index of a shop;");
        HonestScales eight = Make.quiet(Make.plain(8));
        eight.setInspectors(1);
        for (int shop = 7; shop >= 0; shop--) {
            eight.complain(shop);
            Check.due("the smallest of those with a complaint", eight.nextVisited(), shop);
        }
        HonestScales all = Make.bureau("0 0 1 99 1 1 0", "1", Make.plain(1));
        all.visit(0);
        Check.due("visited today, and tomorrow", all.nextVisited(), 0);
    }

    private static void noNextVisit() {
        Sentence.of(53, "NONE if there will be no visit.");
        HonestScales x = Make.quiet(Make.plain(2));
        x.complain(1);
        Check.due("no inspectors", x.nextVisited(), HonestScales.NONE);
        Make.close(x, 0);
        Make.close(x, 1);
        x.setInspectors(3);
        Check.due("all are closed", x.nextVisited(), HonestScales.NONE);
        x.reopen(0);
        Check.due("one is open", x.nextVisited(), 0);
        HonestScales y = Make.closed(2, 0);
        y.setInspectors(1);
        Check.due("74 % 2 is closed: the next one", y.nextVisited(), 1);
    }

    private static void daysUntilFalse() {
        Sentence.of(54, "Returns the number of days until a scale is not true, if only its drift changes it.");
        HonestScales x = Make.bureau("10 0 1 1 1 3 0", "1", "0 500 50 6 1 0 0 0", "0 510 50 6 1 0 0 0", "0 509 50 6 1 0 0 0", "0 510 50 0 1 0 0 0", "0 505 50 3 1 0 0 0");
        Check.due("daysUntilFalse", x.daysUntilFalse(0) + "/" + x.daysUntilFalse(1) + "/" + x.daysUntilFalse(2) + "/" + x.daysUntilFalse(3) + "/" + x.daysUntilFalse(4), "11/1/2/5/8");
        HonestScales closed = Make.bureau("10 0 1 1 1 0 0", "1", "0 500 50 6 1 0 0 0");
        Make.close(closed, 0);
        Check.due("a closed shop's scale", closed.offset(0) + "/" + closed.daysUntilFalse(0), "6/5");
        Sentence.of(54, "Returns the number of days, 0 if it is not true now;");
        HonestScales y = Make.bureau("10 0 1 1 1 0 0", "1", "0 511 50 5 1 0 0 0", "0 511 50 4 1 0 0 0", "0 0 50 10 1 0 0 0");
        Check.due("not true now", y.daysUntilFalse(0) + "/" + y.daysUntilFalse(1) + "/" + y.daysUntilFalse(2), "0/0/0");
        // The longest that there is: a bound of 300 grams, from -300 to 301 by one gram a day.
        HonestScales most = Make.bureau("50 50 1 1 1 0 0", "5000", "0 200 50 6 1 0 0 0", "0 800 50 4 1 0 0 0");
        Check.due("601 days", most.daysUntilFalse(0) + "/" + most.daysUntilFalse(1), "601/601");
        Check.due("nothing has drifted", most.offset(0) + "/" + most.offset(1), "-300/300");
    }

    private static void neverFalse() {
        Sentence.of(54, "NONE if that takes more than 1000 days.");
        HonestScales x = Make.bureau("10 0 1 1 1 0 0", "1", "0 500 50 5 1 0 0 0", "0 510 50 5 1 0 0 0", "0 490 50 5 1 0 0 0");
        Check.due("without a drift", x.daysUntilFalse(0) + "/" + x.daysUntilFalse(1) + "/" + x.daysUntilFalse(2), "-1/-1/-1");
        // With a slope of -50, 500 grams of offset leave an error of 250, and the bound is 300.
        HonestScales y = Make.bureau("50 50 1 1 1 0 0", "5000", "0 800 0 10 1 0 0 0", "0 200 100 0 1 0 0 0");
        Check.due("the offset stays at its end", y.daysUntilFalse(0) + "/" + y.daysUntilFalse(1), "-1/-1");
        HonestScales z = Make.bureau("50 40 1 1 1 0 0", "5000", "0 900 0 6 1 0 0 0", "0 901 1 6 1 0 0 0");
        Check.due("its end is the bound, and a gram beyond it", z.daysUntilFalse(0) + "/" + z.daysUntilFalse(1), "-1/95");
    }

    private static void purseAfter() {
        Sentence.of(55, "Returns the purse of a shop after some days, if only days pass.");
        HonestScales x = new HonestScales();
        x.passDays(5);
        for (int days : new int[] {1, 2, 99, 100}) {
            int[] due = new int[3];
            x.passDays(days);
            for (int shop = 0; shop < 3; shop++) {
                due[shop] = x.purse(shop);
            }
            x.undo();
            for (int shop = 0; shop < 3; shop++) {
                Check.due("purseAfter(" + shop + ", " + days + ")", x.purseAfter(shop, days), due[shop]);
            }
        }
        Sentence.of(55, "- `days`: 0 to 200");
        HonestScales y = Make.bureau("0 0 1 1 50 0 0", "1", "7 500 50 5 1000 20 3 0");
        Check.due("0, 1, 199 and 200", y.purseAfter(0, 0) + "/" + y.purseAfter(0, 1) + "/" + y.purseAfter(0, 199) + "/" + y.purseAfter(0, 200), "7/10/604/607");
        Sentence.of(55, "Returns the coins.");
        HonestScales z = Make.bureau("0 0 1 1 50 0 0", "1", "0 0 0 5 5000 50 0 0", "9999 1000 100 5 5000 50 100 0");
        Check.due("the least and the greatest", z.purseAfter(0, 200) + "/" + z.purseAfter(1, 200), "-375000/434999");
        Make.close(y, 0);
        Check.due("a closed shop's purse stays", y.purseAfter(0, 200), y.purse(0));
        Sentence.of(55, "Throws `IllegalArgumentException` if days is out of range");
        for (int wrong : new int[] {-1, 201, Integer.MAX_VALUE, Integer.MIN_VALUE}) {
            Check.dueThrow("purseAfter(0, " + wrong + ")", Check.ARGUMENT, () -> y.purseAfter(0, wrong));
        }
    }

    private static void bestThumb() {
        Sentence.of(56, "Returns the thumb with which a shop would be richest.");
        HonestScales x = Make.bureau("0 0 99 1 50 0 0", "1", "0 500 50 5 1000 20 0 0");
        Check.due("nobody visits", x.bestThumb(0, 1), 100);
        // The seed stays 65536, and 65536 % 3 is 1: shop 0 is visited, and fined for its stamp, for complaints from 51 grams on.
        HonestScales y = Make.bureau("0 0 99 1 50 1 65536", "1", "0 500 50 5 1000 20 53 0", Make.PLAIN, Make.PLAIN);
        Check.due("as much as goes without complaints", y.bestThumb(0, 2), 50);
        Check.due("its own thumb stays", y.thumb(0), 53);
        Sentence.of(56, "- `days`: 1 to 100");
        Check.due("1 and 100", x.bestThumb(0, 1) + "/" + x.bestThumb(0, 100), "100/100");
        HonestScales z = Make.bureau("0 0 1 99 50 0 0", "1", "0 500 50 5 1000 20 0 30");
        z.visit(0);
        Check.due("cautious for 30 days", z.bestThumb(0, 30) + "/" + z.bestThumb(0, 31), "0/100");
        Check.script(z, "days 2;");
        Check.due("two days of them are over", z.bestThumb(0, 28) + "/" + z.bestThumb(0, 29), "0/100");
        Sentence.of(56, "Throws `IllegalArgumentException` if days is out of range");
        for (int wrong : new int[] {0, -1, 101, Integer.MAX_VALUE, Integer.MIN_VALUE}) {
            Check.dueThrow("bestThumb(0, " + wrong + ")", Check.ARGUMENT, () -> x.bestThumb(0, wrong));
        }
    }

    private static void bestOfEquals() {
        Sentence.of(56, "Returns the thumb, out of 0, 5, 10 and so on up to 100 grams, with which its purse would contain the most coins after these days, if only days pass; the smallest one among equals.");
        Check.due("no sales", Make.bureau("0 0 1 1 50 0 0", "1", "0 500 50 5 1000 0 99 0").bestThumb(0, 100), 0);
        // A coin a day needs 1000 / sales grams.
        bestDue("10", 100);
        bestDue("11", 95);
        bestDue("20", 100);
        bestDue("21", 100);
        bestDue("22", 95);
        bestDue("9", 0);
        bestDue("50", 100);
        HonestScales loss = Make.bureau("0 0 1 1 1 0 0", "1", "0 400 50 5 1000 10 0 0");
        Check.due("the least of losses", loss.bestThumb(0, 1), 5);
        HonestScales closed = Make.bureau("0 0 1 1 50 0 0", "1", "0 500 50 5 1000 20 7 0");
        Make.close(closed, 0);
        Check.due("closed", closed.bestThumb(0, 100), 0);
        HonestScales x = Make.bureau("0 0 1 1 50 0 0", "1", "0 500 50 5 1000 20 7 0", "9 500 50 5 1000 20 7 0");
        Check.due("of two shops", x.bestThumb(1, 3) + "/" + x.thumb(0) + "/" + x.thumb(1), "100/7/7");
        // From 51 grams on shop 1 is visited for its complaints, as long as shop 0 has none; without complaints, shop 65536 % 4 = 0 is.
        HonestScales y = Make.bureau("0 0 99 99 50 1 65536", "1", "0 500 50 5 1000 20 0 0", "0 500 50 5 1000 20 0 0", Make.PLAIN, Make.PLAIN);
        Check.due("the other thumbs stay", y.bestThumb(1, 1), 50);
        y.setThumb(0, 100);
        Check.due("with complaints about shop 0", y.bestThumb(1, 1), 100);
    }

    private static void bestDue(String sales, int due) {
        HonestScales x = Make.bureau("0 0 1 1 1 0 0", "1", "5 500 50 5 1000 " + sales + " 33 0");
        Check.due("with " + sales + " sales", x.bestThumb(0, 1) + "/" + x.bestThumb(0, 7), due + "/" + due);
    }

    private static void mostFined() {
        Sentence.of(57, "Returns the shop that has paid the most fines.");
        HonestScales x = Make.quiet("0 500 50 5 1 0 0 0", "0 529 50 5 1 0 0 0", "0 501 50 5 1 0 0 0");
        x.visit(2);
        Check.due("the last one", x.mostFined(), 2);
        x.visit(1);
        Check.due("two ounces", x.mostFined(), 1);
        x.undo();
        Check.due("undone", x.mostFined(), 2);
        Sentence.of(57, "Returns index of a shop, the smallest one among equals.");
        HonestScales y = Make.quiet("0 500 50 5 1 0 0 0", "0 529 50 5 1 0 0 0", "0 529 50 5 1 0 0 0");
        Check.due("no fines", y.mostFined(), 0);
        y.visit(2);
        y.visit(1);
        Check.due("equal fines", y.mostFined(), 1);
        Make.close(y, 2);
        Check.due("a closed shop", y.mostFined() + "/" + y.isOpen(2), "2/false");
        Check.due("the only shop", Make.quiet(Make.PLAIN).mostFined(), 0);
        HonestScales z = Make.closed(8, 7);
        Check.due("a closed shop, the last of eight", z.mostFined() + "/" + z.isOpen(7), "7/false");
    }

    private static void ounces() {
        Sentence.of(58, "Returns the number of ounces of the total excess of a scale.");
        HonestScales x = Make.bureau("10 0 0 1 1 0 0", "1 2", "0 510 50 5 1 0 0 0", "0 511 50 5 1 0 0 0", "0 524 50 5 1 0 0 0", "0 525 50 5 1 0 0 0");
        Check.due("of 0, 2, 28 and 30 grams", x.ounces(0) + "/" + x.ounces(1) + "/" + x.ounces(2) + "/" + x.ounces(3), "0/1/1/2");
        Sentence.of(58, "Returns (total excess + 27) / 28.");
        int[] grams = {0, 1, 27, 28, 29, 56, 57, 476, 477, 500};
        int[] due = {0, 1, 1, 1, 2, 2, 3, 17, 18, 18};
        for (int i = 0; i < grams.length; i++) {
            Check.due("of " + grams[i], Make.quiet("0 " + (500 - grams[i]) + " 50 5 1 0 0 0").ounces(0), due[i]);
        }
        HonestScales most = Make.bureau(Make.QUIET, "5000 4999 4998 4997 4996 4995", "0 1000 100 5 1 0 0 0");
        Check.due("of 4495", most.ounces(0), 161);
        most.setFee(0);
        Check.due("without a fee", most.ounces(0), 161);
    }

    private static void expiringStamps() {
        Sentence.of(59, "Returns the number of shops whose stamp expires.");
        HonestScales x = Make.bureau("0 0 1 99 1 0 0", "1", Make.plain(8));
        Check.due("all", x.expiringStamps(1), 8);
        x.visit(7);
        Check.due("all but one", x.expiringStamps(1), 7);
        Sentence.of(59, "- `days`: 0 to 200");
        Check.due("0 and 200", x.expiringStamps(0) + "/" + x.expiringStamps(200), "0/8");
        Sentence.of(59, "Returns the number of shops, open or closed, whose stamp is valid on the present day and not on the day that comes so many days later, if no shop is visited until then.");
        Check.due("the last day, and the one after it", x.expiringStamps(99) + "/" + x.expiringStamps(100), "7/8");
        x.passDays(1);
        Check.due("those that have expired do not count", x.expiringStamps(98) + "/" + x.expiringStamps(99) + "/" + x.expiringStamps(200), "0/1/1");
        x.passDays(98);
        Check.due("on the last day", x.expiringStamps(0) + "/" + x.expiringStamps(1), "0/1");
        x.passDays(1);
        Check.due("the day after it", x.expiringStamps(1) + "/" + x.expiringStamps(200), "0/0");
        HonestScales closed = Make.closed(2, 0);
        Check.due("a closed one", closed.expiringStamps(1) + "/" + closed.expiringStamps(2), "0/1");
        HonestScales inspected = Make.bureau("0 0 1 1 1 3 0", "1", Make.plain(2));
        Check.due("inspectors do not count", inspected.expiringStamps(1) + "/" + inspected.visits(), "2/0");
        Sentence.of(59, "Throws `IllegalArgumentException` if days is out of range");
        for (int wrong : new int[] {-1, 201, Integer.MAX_VALUE, Integer.MIN_VALUE}) {
            Check.dueThrow("expiringStamps(" + wrong + ")", Check.ARGUMENT, () -> x.expiringStamps(wrong));
        }
    }

    private static void daysUntilClosed() {
        Sentence.of(60, "Returns the number of days until a shop is closed, if only days pass.");
        // One gram a day and a visit a day: it fails on each of three days.
        HonestScales x = Make.bureau("0 0 1 99 1 1 0", "1", "0 500 50 6 1 0 0 0");
        Check.due("three days", x.daysUntilClosed(0), 3);
        x.passDays(1);
        Check.due("two days", x.daysUntilClosed(0), 2);
        x.passDays(1);
        Check.due("one day", x.daysUntilClosed(0), 1);
        // The inspector goes for the complaints about shop 1, each day; a second one has time for shop 0.
        HonestScales y = Make.bureau("0 0 1 99 1 1 0", "1", "0 500 50 6 1 0 0 0", "0 500 50 5 1000 1 100 0");
        Check.due("never visited", y.daysUntilClosed(0), HonestScales.NONE);
        y.setInspectors(2);
        Check.due("with two inspectors", y.daysUntilClosed(0), 3);
        Sentence.of(60, "Returns the number of days; 0 if it is closed;");
        x.passDays(1);
        Check.due("closed", x.daysUntilClosed(0) + "/" + x.isOpen(0), "0/false");
        x.reopen(0);
        Check.due("open again", x.daysUntilClosed(0), 3);
        x.setInspectors(0);
        x.passDays(1);
        x.visit(0);
        x.passDays(1);
        x.visit(0);
        x.setInspectors(1);
        Check.due("with two failures", x.daysUntilClosed(0), 1);
    }

    private static void notClosedInTime() {
        Sentence.of(60, "NONE if that takes more than 200 days.");
        // A bound of 99: it fails for its stamp on day 1, for its scale on day 101, and again on day 201.
        HonestScales x = Make.bureau("50 49 0 99 1 1 0", "1000", "0 499 50 6 1 0 0 0");
        Check.due("201 days", x.daysUntilClosed(0), HonestScales.NONE);
        x.passDays(1);
        Check.due("200 days", x.daysUntilClosed(0), 200);
        x.passDays(100);
        x.passDays(99);
        Check.due("1 day", x.daysUntilClosed(0), 1);
        x.passDays(1);
        Check.due("closed on day 201", x.day() + "/" + x.isOpen(0), "201/false");
        HonestScales y = Make.quiet("0 500 50 6 1 0 0 0");
        Check.due("without inspectors", y.daysUntilClosed(0), HonestScales.NONE);
        HonestScales z = Make.bureau("0 0 1 99 1 3 0", "1", "0 500 50 6 1 0 0 0", Make.PLAIN);
        Check.due("the honest one fails but once", z.daysUntilClosed(0) + "/" + z.daysUntilClosed(1), "3/-1");
    }

    private static void nothingChanges() {
        Sentence.of(53, "Returns the first shop that will be visited on the next day.");
        HonestScales x = new HonestScales();
        x.passDays(4);
        x.saveSnapshot(0);
        String before = Check.state(x);
        x.usesThumb(0);
        x.fineIfVisited(0);
        x.whyFail(0);
        x.nextGain(0);
        x.nextVisited();
        x.daysUntilFalse(0);
        x.purseAfter(0, 200);
        x.bestThumb(0, 100);
        x.mostFined();
        x.ounces(0);
        x.expiringStamps(200);
        x.daysUntilClosed(1);
        Check.due("the state after all questions", Check.state(x), before);
        Check.due("the change that can be undone", x.undo(), 0);
        Check.due("the snapshot", x.restoreSnapshot(0), 4);
        Check.due("its state", Check.state(x), before);
    }

    private PromisesOfQuestions() {
    }
}
