/** The edges of promises 8 to 18: the methods that change something. */
final class PromisesOfChanges {
    static void test() {
        Check.each(
            PromisesOfChanges::passDays,
            PromisesOfChanges::passDaysReturns,
            PromisesOfChanges::passDaysRange,
            PromisesOfChanges::visitTwiceADay,
            PromisesOfChanges::visitReturns,
            PromisesOfChanges::visitOfAClosedShop,
            PromisesOfChanges::repairStraightens,
            PromisesOfChanges::repairPrice,
            PromisesOfChanges::repairReturns,
            PromisesOfChanges::repairRefuses,
            PromisesOfChanges::setThumb,
            PromisesOfChanges::setThumbRange,
            PromisesOfChanges::complain,
            PromisesOfChanges::complainRefuses,
            PromisesOfChanges::reopen,
            PromisesOfChanges::reopenRefuses,
            PromisesOfChanges::setInspectors,
            PromisesOfChanges::setFee,
            PromisesOfChanges::undoLatest,
            PromisesOfChanges::undoIsNoChange,
            PromisesOfChanges::undoReturns,
            PromisesOfChanges::undoRefuses,
            PromisesOfChanges::saveInPlace,
            PromisesOfChanges::saveIsNoChange,
            PromisesOfChanges::saveSlots,
            PromisesOfChanges::restore,
            PromisesOfChanges::restoreIsAChange,
            PromisesOfChanges::restoreSlots,
            PromisesOfChanges::restoreRefuses);
    }

    private static void passDays() {
        Sentence.of(8, "Lets days pass.");
        HonestScales x = new HonestScales();
        HonestScales y = new HonestScales();
        x.passDays(100);
        for (int i = 0; i < 100; i++) {
            y.passDays(1);
        }
        Check.due("a hundred days at once, and one by one", Check.state(x), Check.state(y));
        Check.due("day", x.day(), 100);
    }

    private static void passDaysReturns() {
        Sentence.of(8, "Returns the number of visits of inspectors in these days.");
        HonestScales x = Make.bureau("0 0 1 99 1 3 0", "1", Make.plain(4));
        Check.due("three inspectors", x.passDays(1) + "/" + x.passDays(100), "3/300");
        x.visit(0);
        x.setInspectors(0);
        Check.due("visits by hand do not count, nor those of earlier days", x.passDays(100), 0);
        HonestScales y = Make.bureau("0 0 1 99 1 3 0", "1", Make.plain(1));
        Check.due("one shop", y.passDays(1) + "/" + y.passDays(2), "1/2");
        // One gram a day: it fails on days 1 to 3, and there is nobody to visit from then on.
        HonestScales z = Make.bureau("0 0 1 99 1 2 0", "1", "0 500 50 6 1 0 0 0");
        Check.due("until it is closed", z.passDays(100), 3);
        Check.due("closed", z.passDays(100), 0);
    }

    private static void passDaysRange() {
        Sentence.of(8, "- `count`: 1 to 100");
        HonestScales x = new HonestScales();
        x.passDays(1);
        x.passDays(100);
        Check.due("1 and 100", x.day(), 101);
        Sentence.of(8, "Throws `IllegalArgumentException` if count is out of range");
        for (int wrong : new int[] {0, -1, 101, Integer.MAX_VALUE, Integer.MIN_VALUE}) {
            Check.dueThrow("passDays(" + wrong + ")", Check.ARGUMENT, () -> x.passDays(wrong));
        }
        Check.due("the day stays", x.day(), 101);
    }

    private static void visitTwiceADay() {
        Sentence.of(9, "Visits an open shop, even if it was visited on this day already.");
        HonestScales x = Make.bureau("0 0 1 9 1 1 0", "1", Make.plain(1));
        x.passDays(1);
        Check.due("visited by an inspector", x.latestVisit(0) + "/" + x.visits(), "1/1");
        x.complain(0);
        Check.due("a visit all the same", x.visit(0) + "/" + x.visits() + "/" + x.complaints(0), "0/2/0");
        x.complain(0);
        Check.due("and one more", x.visit(0) + "/" + x.visits() + "/" + x.complaints(0), "0/3/0");
        HonestScales y = Make.bureau("0 0 1 9 1 0 0", "1", "0 501 50 5 1 0 0 0");
        Check.due("it fails once", y.visit(0) + "/" + y.visit(0) + "/" + y.failures(0), "1/0/1");
    }

    private static void visitReturns() {
        Sentence.of(9, "Returns the fine that it paid; 0 if it did not fail.");
        HonestScales x = Make.bureau("10 0 3 1 1 0 0", "1", "0 510 50 5 1 0 0 0", "0 511 50 5 1 0 0 0");
        Check.due("it did not fail", x.visit(0) + "/" + x.failures(0), "0/0");
        Check.due("an ounce", x.visit(1) + "/" + x.failures(1) + "/" + x.purse(1), "3/1/-3");
        x.passDays(2);
        Check.due("the stamp", x.visit(0) + "/" + x.failures(0) + "/" + x.purse(0), "15/1/-15");
        x.setFee(0);
        x.passDays(2);
        Check.due("without a fee it fails too", x.visit(0) + "/" + x.failures(0), "0/2");
        HonestScales most = Make.bureau("0 0 99 1 1 0 0", "5000 4999 4998 4997 4996 4995", "9999 0 0 5 1 0 0 0");
        most.passDays(1);
        Check.due("the greatest fine", most.visit(0) + "/" + most.purse(0) + "/" + most.bureauCoins(), "16434/-6435/16434");
    }

    private static void visitOfAClosedShop() {
        Sentence.of(9, "Throws `IllegalStateException` if the shop is closed");
        HonestScales x = Make.closed(3, 2);
        Check.dueThrow("visit(2)", Check.STATE, () -> x.visit(2));
        Check.due("no visit", x.visits() + "/" + x.failures(2), "3/3");
        Check.due("an open one", x.visit(1), 5);
        x.reopen(2);
        Check.due("open again", x.visit(2), 0);
        HonestScales y = Make.closed(1, 0);
        Check.dueThrow("all are closed", Check.STATE, () -> y.visit(0));
    }

    private static void repairStraightens() {
        Sentence.of(10, "A shop has its scale repaired: the offset and the slope become 0.");
        HonestScales x = Make.bureau("50 50 1 1 1 0 0", "1", "99 501 51 6 1 0 0 0", "99 0 0 0 1 0 0 0", "99 501 51 6 1 0 0 0");
        x.repair(0);
        x.repair(1);
        Check.due("a true scale", x.offset(0) + "/" + x.slope(0), "0/0");
        Check.due("one that is not true", x.offset(1) + "/" + x.slope(1), "0/0");
        Check.due("another shop's", x.offset(2) + "/" + x.slope(2), "1/1");
        Check.due("the drift stays", x.drift(0) + "/" + x.drift(1), "1/-5");
        Check.due("no visit, no stamp", x.latestVisit(1) + "/" + x.stampedUntil(1) + "/" + x.failures(1) + "/" + x.visits(), "-1/0/0/0");
    }

    private static void repairPrice() {
        Sentence.of(10, "The repair costs 10 coins, which go to the bureau.");
        HonestScales x = Make.quiet("30 501 50 5 1 0 0 0", "9999 500 50 5 1 0 0 0");
        x.repair(0);
        Check.due("after one", x.purse(0) + "/" + x.bureauCoins(), "20/10");
        x.repair(0);
        x.repair(0);
        Check.due("after three", x.purse(0) + "/" + x.bureauCoins(), "0/30");
        x.repair(1);
        Check.due("a straight scale costs as much", x.purse(1) + "/" + x.bureauCoins(), "9989/40");
        Check.due("it is no fine", x.finesOf(0) + "/" + x.gainsOf(0) + "/" + x.coinError(), "0/0/0");
    }

    private static void repairReturns() {
        Sentence.of(10, "Returns the coins in the purse afterwards.");
        HonestScales x = Make.quiet("9999 500 50 5 1 0 0 0", "11 500 50 5 1 0 0 0", "10 500 50 5 1 0 0 0");
        Check.due("repair", x.repair(0) + "/" + x.repair(1) + "/" + x.repair(2), "9989/1/0");
    }

    private static void repairRefuses() {
        Sentence.of(10, "Throws `IllegalStateException` if the shop is closed, or its purse contains fewer than 10 coins");
        HonestScales x = Make.quiet("9 501 50 5 1 0 0 0", "0 501 50 5 1 0 0 0", "10 501 50 5 1 0 0 0", "99 501 50 5 1 0 0 0");
        Check.dueThrow("9 coins", Check.STATE, () -> x.repair(0));
        Check.dueThrow("no coins", Check.STATE, () -> x.repair(1));
        Check.due("10 coins", x.repair(2), 0);
        Check.dueThrow("none left", Check.STATE, () -> x.repair(2));
        x.visit(1);
        Check.due("below 0", x.purse(1), -1);
        Check.dueThrow("below 0", Check.STATE, () -> x.repair(1));
        Make.close(x, 3);
        Check.due("a closed shop with coins", x.purse(3) >= 10, true);
        Check.dueThrow("a closed shop", Check.STATE, () -> x.repair(3));
        Check.due("nothing is repaired, nothing is paid", x.offset(0) + "/" + x.purse(0), "1/9");
        x.reopen(3);
        Check.due("open again", x.repair(3) >= 0, true);
    }

    private static void setThumb() {
        Sentence.of(11, "Sets the thumb of a shop.");
        HonestScales x = Make.closed(3, 2);
        x.setThumb(0, 100);
        x.setThumb(1, 7);
        Check.due("thumbs", x.thumb(0) + "/" + x.thumb(1) + "/" + x.thumb(2), "100/7/0");
        x.setThumb(2, 1);
        Check.due("a closed shop's", x.thumb(2), 1);
        Sentence.of(11, "Returns the previous thumb.");
        Check.due("setThumb", x.setThumb(0, 0) + "/" + x.setThumb(0, 0) + "/" + x.setThumb(0, 5) + "/" + x.setThumb(2, 5), "100/0/0/1");
    }

    private static void setThumbRange() {
        Sentence.of(11, "- `grams`: 0 to 100");
        HonestScales x = Make.quiet("0 500 50 5 1 0 50 0");
        Check.due("0 and 100", x.setThumb(0, 0) + "/" + x.thumb(0) + "/" + x.setThumb(0, 100) + "/" + x.thumb(0), "50/0/0/100");
        Sentence.of(11, "Throws `IllegalArgumentException` if grams is out of range");
        for (int wrong : new int[] {-1, 101, Integer.MAX_VALUE, Integer.MIN_VALUE}) {
            Check.dueThrow("setThumb(0, " + wrong + ")", Check.ARGUMENT, () -> x.setThumb(0, wrong));
        }
        Check.due("the thumb stays", x.thumb(0), 100);
    }

    private static void complain() {
        Sentence.of(12, "A customer complains about a shop.");
        HonestScales x = Make.quiet(Make.plain(3));
        x.complain(2);
        x.complain(0);
        x.complain(2);
        Check.due("complaints", x.complaints(0) + "/" + x.complaints(1) + "/" + x.complaints(2), "1/0/2");
        Sentence.of(12, "Returns the number of complaints afterwards.");
        Check.due("complain", x.complain(1) + "/" + x.complain(1) + "/" + x.complain(0), "1/2/2");
        x.visit(1);
        Check.due("after a visit", x.complain(1), 1);
    }

    private static void complainRefuses() {
        Sentence.of(12, "Throws `IllegalStateException` if the shop is closed");
        HonestScales x = Make.closed(2, 1);
        Check.dueThrow("complain(1)", Check.STATE, () -> x.complain(1));
        Check.due("no complaint", x.complaints(1), 0);
        Check.due("an open one", x.complain(0), 1);
        x.reopen(1);
        Check.due("open again", x.complain(1), 1);
    }

    private static void reopen() {
        Sentence.of(13, "Opens a closed shop again.");
        HonestScales x = Make.quiet(Make.plain(8));
        Make.close(x, 7);
        Make.close(x, 0);
        int fines = x.finesOf(0);
        x.reopen(0);
        Check.due("open", x.isOpen(0) + "/" + x.isOpen(7) + "/" + x.openShops(), "true/false/7");
        Sentence.of(13, "Its failures become 0.");
        Check.due("failures", x.failures(0) + "/" + x.failures(7), "0/3");
        Check.due("nothing else", x.latestVisit(0) + "/" + x.stampedUntil(0) + "/" + (x.finesOf(0) - fines) + "/" + x.visits(), "12/13/0/6");
        Sentence.of(13, "Returns the number of open shops afterwards.");
        Check.due("the last one", x.reopen(7), 8);
        Check.due("the only one", Make.closed(1, 0).reopen(0), 1);
        HonestScales y = Make.quiet(Make.plain(2));
        Make.close(y, 0);
        Make.close(y, 1);
        Check.due("the first of two", y.reopen(1) + "/" + y.isOpen(0), "1/false");
    }

    private static void reopenRefuses() {
        Sentence.of(13, "Throws `IllegalStateException` if the shop is open");
        HonestScales x = Make.closed(2, 1);
        Check.dueThrow("never closed", Check.STATE, () -> x.reopen(0));
        x.reopen(1);
        Check.dueThrow("open again", Check.STATE, () -> x.reopen(1));
        Check.script(x, "days 2;visit 0;");
        Check.dueThrow("with a failure", Check.STATE, () -> x.reopen(0));
        Check.due("its failure stays", x.failures(0), 1);
    }

    private static void setInspectors() {
        Sentence.of(14, "Sets the number of inspectors.");
        HonestScales x = Make.bureau("0 0 1 99 1 1 0", "1", Make.plain(4));
        x.setInspectors(3);
        Check.due("visits of a day", x.passDays(1) + "/" + x.inspectors(), "3/3");
        x.setInspectors(0);
        Check.due("visits of a day", x.passDays(1) + "/" + x.inspectors(), "0/0");
        Sentence.of(14, "- `count`: 0 to 3");
        for (int count = 3; count >= 0; count--) {
            x.setInspectors(count);
            Check.due("inspectors", x.inspectors(), count);
        }
        Sentence.of(14, "Returns the previous number.");
        Check.due("setInspectors", x.setInspectors(3) + "/" + x.setInspectors(3) + "/" + x.setInspectors(0) + "/" + x.setInspectors(2), "0/3/3/0");
        Sentence.of(14, "Throws `IllegalArgumentException` if count is out of range");
        for (int wrong : new int[] {-1, 4, Integer.MAX_VALUE, Integer.MIN_VALUE}) {
            Check.dueThrow("setInspectors(" + wrong + ")", Check.ARGUMENT, () -> x.setInspectors(wrong));
        }
        Check.due("they stay", x.inspectors(), 2);
    }

    private static void setFee() {
        Sentence.of(15, "Sets the fee.");
        HonestScales x = Make.quiet(Make.plain(2));
        x.passDays(1);
        x.setFee(99);
        Check.due("the greatest", x.fee() + "/" + x.visit(0), "99/495");
        x.setFee(0);
        Check.due("the least", x.fee() + "/" + x.visit(1), "0/0");
        Sentence.of(15, "- `coins`: 0 to 99");
        Check.due("0 and 99", x.setFee(0) + "/" + x.setFee(99), "0/0");
        Sentence.of(15, "Returns the previous fee.");
        Check.due("setFee", x.setFee(99) + "/" + x.setFee(0) + "/" + x.setFee(5), "99/99/0");
        Sentence.of(15, "Throws `IllegalArgumentException` if coins is out of range");
        for (int wrong : new int[] {-1, 100, Integer.MAX_VALUE, Integer.MIN_VALUE}) {
            Check.dueThrow("setFee(" + wrong + ")", Check.ARGUMENT, () -> x.setFee(wrong));
        }
        Check.due("it stays", x.fee(), 5);
    }

    private static void undoLatest() {
        Sentence.of(16, "Undoes the latest change that was not undone yet.");
        HonestScales x = new HonestScales();
        x.setFee(11);
        x.setFee(12);
        x.setFee(13);
        x.undo();
        x.undo();
        Check.due("two undone", x.fee(), 11);
        x.setFee(14);
        x.undo();
        Check.due("one more, undone", x.fee(), 11);
        x.undo();
        Check.due("all undone", x.fee(), 4);
        for (int i = 1; i <= 12; i++) {
            x.setFee(20 + i);
        }
        for (int i = 0; i < 5; i++) {
            x.undo();
        }
        x.setFee(40);
        x.setFee(41);
        int[] due = {40, 27, 26, 25, 24};
        for (int fee : due) {
            x.undo();
            Check.due("one after the other", x.fee(), fee);
        }
        Check.dueThrow("those are the 8 latest: 25 to 27, 40, 41 and three undone", Check.ELEMENT, x::undo);
    }

    private static void undoIsNoChange() {
        Sentence.of(16, "This method is not undoable itself.");
        HonestScales x = new HonestScales();
        x.setFee(11);
        x.setFee(12);
        Check.due("undo", x.undo() + "/" + x.fee(), "1/11");
        Check.due("undo goes on backwards", x.undo() + "/" + x.fee(), "0/4");
        Check.dueThrow("and then there is nothing", Check.ELEMENT, x::undo);
    }

    private static void undoReturns() {
        Sentence.of(16, "Returns the number of changes that can still be undone.");
        for (int changes = 1; changes <= 10; changes++) {
            HonestScales x = new HonestScales();
            for (int i = 0; i < changes; i++) {
                x.complain(0);
            }
            Check.due("undo of one of " + changes, x.undo(), Math.min(changes, 8) - 1);
        }
    }

    private static void undoRefuses() {
        Sentence.of(16, "Throws `NoSuchElementException` if no change can be undone");
        HonestScales x = new HonestScales();
        Check.dueThrow("no change", Check.ELEMENT, x::undo);
        x.saveSnapshot(0);
        x.writeShop(0);
        x.append(0, 0, 0, 0, 0);
        x.bestThumb(0, 9);
        Check.dueThrow("calls that change nothing", Check.ELEMENT, x::undo);
        Check.dueThrow("passDays", Check.ARGUMENT, () -> x.passDays(0));
        Check.dueThrow("a change that was refused", Check.ELEMENT, x::undo);
        for (int i = 0; i < 9; i++) {
            x.complain(0);
        }
        for (int i = 0; i < 8; i++) {
            x.undo();
        }
        Check.dueThrow("the ninth", Check.ELEMENT, x::undo);
        Check.due("its change stays", x.complaints(0), 1);
    }

    private static void saveInPlace() {
        Sentence.of(17, "Saves a snapshot of the state, in place of an earlier one in the same slot.");
        HonestScales x = new HonestScales();
        x.saveSnapshot(0);
        x.passDays(1);
        x.saveSnapshot(1);
        x.passDays(1);
        String second = Check.state(x);
        x.saveSnapshot(1);
        x.passDays(5);
        Check.due("slot 1 has the later one", x.restoreSnapshot(1), 2);
        Check.due("its state", Check.state(x), second);
        Check.due("slot 0 has its own", x.restoreSnapshot(0), 0);
        HonestScales y = Make.bureau(Make.QUIET, "1 2 3 4 5 6", Make.plain(8));
        y.saveSnapshot(0);
        y.undo();
        y.saveSnapshot(0);
        y.setFee(9);
        y.restoreSnapshot(0);
        Check.due("three shops in place of eight", Check.state(y), Check.state(new HonestScales()));
    }

    private static void saveIsNoChange() {
        Sentence.of(17, "This method is not undoable.");
        HonestScales x = new HonestScales();
        x.setFee(9);
        x.saveSnapshot(0);
        x.saveSnapshot(1);
        Check.due("undo of the change before", x.undo() + "/" + x.fee(), "0/4");
        Check.due("the snapshots stay", x.restoreSnapshot(0) + "/" + x.fee() + "/" + x.restoreSnapshot(1) + "/" + x.fee(), "0/9/0/9");
        Check.due("saving drops no change", x.undo() + "/" + x.undo(), "1/0");
    }

    private static void saveSlots() {
        Sentence.of(17, "- `slot`: 0 or 1");
        HonestScales x = new HonestScales();
        x.saveSnapshot(0);
        Check.due("0", x.restoreSnapshot(0), 0);
        Check.dueThrow("1 is empty yet", Check.ELEMENT, () -> x.restoreSnapshot(1));
        x.passDays(3);
        x.saveSnapshot(1);
        Check.due("1", x.restoreSnapshot(1), 3);
        Sentence.of(17, "Throws `IllegalArgumentException` if slot is out of range");
        x.passDays(1);
        for (int wrong : new int[] {-1, 2, Integer.MAX_VALUE, Integer.MIN_VALUE}) {
            Check.dueThrow("saveSnapshot(" + wrong + ")", Check.ARGUMENT, () -> {
                x.saveSnapshot(wrong);
                return "nothing";
            });
        }
        Check.due("the slots stay", x.restoreSnapshot(0) + "/" + x.restoreSnapshot(1), "0/3");
    }

    private static void restore() {
        Sentence.of(18, "Restores the snapshot in a slot.");
        HonestScales x = Make.closed(3, 0);
        String closed = Check.state(x);
        x.saveSnapshot(1);
        Check.feed(x, Make.text("50 50 99 99 50 3 65536", "7", Make.plain(8)));
        x.loadSetup();
        x.restoreSnapshot(1);
        Check.due("the whole state", Check.state(x), closed);
        Sentence.of(18, "The snapshot stays there.");
        x.reopen(0);
        x.passDays(9);
        x.restoreSnapshot(1);
        Check.due("restored again", Check.state(x), closed);
        x.undo();
        Check.due("restored after undo", x.restoreSnapshot(1) + "/" + x.isOpen(0), "6/false");
        Sentence.of(18, "Returns the day of the restored state.");
        HonestScales y = new HonestScales();
        y.saveSnapshot(0);
        y.passDays(100);
        y.saveSnapshot(1);
        Check.due("days", y.restoreSnapshot(0) + "/" + y.restoreSnapshot(1) + "/" + y.restoreSnapshot(1), "0/100/100");
    }

    private static void restoreIsAChange() {
        Sentence.of(18, "This method is undoable.");
        HonestScales x = new HonestScales();
        x.saveSnapshot(0);
        x.setFee(9);
        x.restoreSnapshot(0);
        Check.due("undo of the restoring", x.undo() + "/" + x.fee(), "1/9");
        for (int i = 0; i < 9; i++) {
            x.restoreSnapshot(0);
        }
        Check.due("nine of them", x.undo(), 7);
    }

    private static void restoreSlots() {
        Sentence.of(18, "- `slot`: 0 or 1");
        HonestScales x = new HonestScales();
        x.saveSnapshot(0);
        x.passDays(1);
        x.saveSnapshot(1);
        Check.due("0 and 1", x.restoreSnapshot(0) + "/" + x.restoreSnapshot(1), "0/1");
        Sentence.of(18, "Throws `IllegalArgumentException` if slot is out of range");
        for (int wrong : new int[] {-1, 2, Integer.MAX_VALUE, Integer.MIN_VALUE}) {
            Check.dueThrow("restoreSnapshot(" + wrong + ")", Check.ARGUMENT, () -> x.restoreSnapshot(wrong));
            Check.dueThrow("restoreSnapshot(" + wrong + ") of a new object", Check.ARGUMENT, () -> new HonestScales().restoreSnapshot(wrong));
        }
        Check.due("the state stays", x.day(), 1);
    }

    private static void restoreRefuses() {
        Sentence.of(18, "Throws `NoSuchElementException` if the slot is empty");
        for (int slot = 0; slot < 2; slot++) {
            int empty = slot;
            HonestScales x = new HonestScales();
            x.passDays(1);
            Check.dueThrow("both are empty", Check.ELEMENT, () -> x.restoreSnapshot(empty));
            x.saveSnapshot(1 - slot);
            Check.dueThrow("the other one is full", Check.ELEMENT, () -> x.restoreSnapshot(empty));
            Check.due("nothing has changed", x.day() + "/" + x.undo(), "1/0");
        }
    }

    private PromisesOfChanges() {
    }
}
