/** The edges in "Terms" of undo, snapshots and exceptions. */
final class TermsOfUndo {
    private static final String SETUP = "bureau 0 0 1 1 1 0 0;weights 1;shop 0 500 50 5 1 0 0 0;";

    /** A call that changes the state. */
    private interface Change {
        Object make(HonestScales x);
    }

    static void test() {
        Check.each(
            TermsOfUndo::whatIsUndoable,
            TermsOfUndo::scriptsAreOneChange,
            TermsOfUndo::eightChanges,
            TermsOfUndo::wholeState,
            TermsOfUndo::exceptionsChangeNothing,
            TermsOfUndo::missingShopsAndWeights,
            TermsOfUndo::otherArguments,
            TermsOfUndo::exceptionListedFirst);
    }

    /** Shop 1 is closed, shop 0 has coins and a thumb of 20, and there is a snapshot in slot 0. */
    private static HonestScales ready() {
        HonestScales x = new HonestScales();
        x.setInspectors(0);
        Check.script(x, "days 20;visit 1;days 20;visit 1;days 20;visit 1;");
        x.saveSnapshot(0);
        return x;
    }

    private static void whatIsUndoable() {
        Sentence.of(Sentence.TERMS, "The methods in the section \"changes\" are undoable if they return normally, even if nothing is different afterwards.");
        undoable("loadSetup", x -> {
            Check.feed(x, SETUP);
            return x.loadSetup();
        });
        undoable("runScript", x -> Check.script(x, "days 2;complain 0;"));
        undoable("passDays", x -> x.passDays(1));
        undoable("visit", x -> x.visit(0));
        undoable("repair", x -> x.repair(0));
        undoable("setThumb", x -> x.setThumb(0, 21));
        undoable("complain", x -> x.complain(0));
        undoable("reopen", x -> x.reopen(1));
        undoable("setInspectors", x -> x.setInspectors(1));
        undoable("setFee", x -> x.setFee(5));
        undoable("restoreSnapshot", x -> x.restoreSnapshot(0));
        undoable("an empty script", x -> Check.script(x, ""));
        undoable("a script that ends before its first command", x -> Check.script(x, "open 0;"));
        undoable("setThumb to what it is", x -> x.setThumb(0, 20));
        undoable("setInspectors to what they are", x -> x.setInspectors(0));
        undoable("setFee to what it is", x -> x.setFee(4));
        HonestScales same = Make.quiet(Make.PLAIN);
        same.undo();
        Check.feed(same, SETUP);
        same.loadSetup();
        Check.feed(same, SETUP);
        same.loadSetup();
        Check.due("a setup in place of the same one", same.undo(), 1);
    }

    private static void undoable(String what, Change change) {
        HonestScales x = ready();
        x.complain(0);
        String before = Check.state(x);
        change.make(x);
        Check.due("changes left after " + what, x.undo(), 3);
        Check.due("the state before " + what, Check.state(x), before);
        Check.due("changes left before " + what, x.undo(), 2);
    }

    private static void scriptsAreOneChange() {
        Sentence.of(Sentence.TERMS, "A script is one change as a whole.");
        HonestScales x = new HonestScales();
        String before = Check.state(x);
        x.setFee(5);
        Check.script(x, "complain 0;".repeat(20));
        Check.due("undo of twenty commands", x.undo() + "/" + x.complaints(0) + "/" + x.fee(), "1/0/5");
        Check.script(x, "days 1;days 1;complain 2;open 0;complain 2;");
        Check.due("undo of the three that were executed", x.undo() + "/" + x.day() + "/" + x.complaints(2), "1/0/0");
        Check.due("undo of what was before", x.undo(), 0);
        Check.due("the state", Check.state(x), before);
    }

    private static void eightChanges() {
        Sentence.of(Sentence.TERMS, "At most the 8 latest changes can be undone.");
        for (int changes : new int[] {0, 1, 7, 8, 9, 17}) {
            HonestScales x = new HonestScales();
            for (int i = 1; i <= changes; i++) {
                x.setFee(10 + i);
            }
            int undoable = Math.min(8, changes);
            for (int left = undoable - 1; left >= 0; left--) {
                Check.due("undo of one of " + changes, x.undo(), left);
                int kept = changes - undoable + left;
                Check.due("the fee behind it", x.fee(), kept == 0 ? 4 : 10 + kept);
            }
            Check.dueThrow("one undo more than " + undoable, Check.ELEMENT, x::undo);
        }
    }

    private static void wholeState() {
        Sentence.of(Sentence.TERMS, "Undo, snapshots and restoring concern the whole state except the input buffer, the output text, the reported error and the snapshots themselves.");
        HonestScales x = ready();
        String before = Check.state(x);
        Check.feed(x, "bureau 50 49 98 99 50 3 65535;weights 7 8;shop 9 501 52 8 100 4 5 6;");
        x.loadSetup();
        x.saveSnapshot(1);
        x.undo();
        Check.due("the whole state, by undo", Check.state(x), before);
        x.restoreSnapshot(1);
        String other = Check.state(x);
        x.restoreSnapshot(0);
        Check.due("the whole state, by restoring", Check.state(x), before);
        x.undo();
        Check.due("the other one, by undo", Check.state(x), other);
        exceptTheBuffer();
        exceptTheOutput();
        exceptTheError();
        exceptTheSnapshots();
    }

    private static void exceptTheBuffer() {
        HonestScales x = new HonestScales();
        x.saveSnapshot(0);
        x.complain(0);
        Check.feed(x, "complain 1;");
        x.undo();
        x.restoreSnapshot(0);
        x.saveSnapshot(1);
        Check.due("the buffer", x.truncate(11), 11);
        Check.due("what is in it", x.runScript() + "/" + x.complaints(1), "1/1");
        x.undo();
        Check.dueThrow("undo does not fill it again", Check.ARGUMENT, () -> x.truncate(1));
    }

    private static void exceptTheOutput() {
        HonestScales x = new HonestScales();
        x.saveSnapshot(0);
        x.passDays(1);
        x.writeShop(0);
        String text = Check.output(x, 3);
        x.undo();
        Check.due("the output text after undo", Check.output(x, 3), text);
        x.restoreSnapshot(0);
        Check.due("the output text after restoring", Check.output(x, 3), text);
        Check.due("the output text is that of day 1", text, "84t");
    }

    private static void exceptTheError() {
        HonestScales x = new HonestScales();
        x.saveSnapshot(0);
        x.complain(0);
        Check.feed(x, "days 101;");
        Check.dueThrow("runScript", Check.ARGUMENT, x::runScript);
        x.undo();
        Check.due("the error after undo", x.errorCode() + "/" + x.errorPosition(), "2/5");
        x.restoreSnapshot(0);
        Check.due("the error after restoring", x.errorCode() + "/" + x.errorPosition(), "2/5");
        Check.script(x, "");
        x.undo();
        Check.due("no error after the undo of a good script", x.errorCode() + "/" + x.errorPosition(), "0/-1");
    }

    private static void exceptTheSnapshots() {
        HonestScales x = new HonestScales();
        x.passDays(1);
        x.saveSnapshot(0);
        x.passDays(1);
        x.saveSnapshot(1);
        x.undo();
        x.undo();
        Check.due("slot 1 after undo", x.restoreSnapshot(1), 2);
        Check.due("slot 0 after restoring slot 1", x.restoreSnapshot(0), 1);
        Check.due("slot 1 after restoring slot 0", x.restoreSnapshot(1), 2);
    }

    private static void exceptionsChangeNothing() {
        Sentence.of(Sentence.TERMS, "A method that throws an exception changes nothing, except where its description says so.");
        refused("append", Check.STATE, x -> x.append(1, 2, 3, 4, 5));
        refused("truncate", Check.ARGUMENT, x -> x.truncate(501));
        refused("truncate", Check.ARGUMENT, x -> x.truncate(-1));
        refused("passDays", Check.ARGUMENT, x -> x.passDays(0));
        refused("passDays", Check.ARGUMENT, x -> x.passDays(101));
        refused("visit", Check.STATE, x -> x.visit(1));
        refused("visit", Check.INDEX, x -> x.visit(3));
        refused("repair", Check.STATE, x -> x.repair(1));
        refused("repair", Check.INDEX, x -> x.repair(3));
        refused("setThumb", Check.ARGUMENT, x -> x.setThumb(0, 101));
        refused("setThumb", Check.INDEX, x -> x.setThumb(3, 0));
        refused("complain", Check.STATE, x -> x.complain(1));
        refused("complain", Check.INDEX, x -> x.complain(3));
        refused("reopen", Check.STATE, x -> x.reopen(0));
        refused("reopen", Check.INDEX, x -> x.reopen(3));
        refused("setInspectors", Check.ARGUMENT, x -> x.setInspectors(4));
        refused("setFee", Check.ARGUMENT, x -> x.setFee(100));
        refused("saveSnapshot", Check.ARGUMENT, x -> {
            x.saveSnapshot(2);
            return "nothing";
        });
        refused("restoreSnapshot", Check.ARGUMENT, x -> x.restoreSnapshot(2));
        refused("restoreSnapshot", Check.ELEMENT, x -> x.restoreSnapshot(1));
        refused("purseAfter", Check.ARGUMENT, x -> x.purseAfter(0, 201));
        refused("bestThumb", Check.ARGUMENT, x -> x.bestThumb(0, 101));
        refused("writeShop", Check.INDEX, x -> x.writeShop(3));
        HonestScales empty = new HonestScales();
        String before = Check.state(empty);
        Check.dueThrow("undo", Check.ELEMENT, empty::undo);
        Check.due("the state after undo", Check.state(empty), before);
    }

    /** On an object with a full buffer, an output text, a reported error, a snapshot and two changes. */
    private static void refused(String what, Class<? extends RuntimeException> want, Change change) {
        HonestScales x = ready();
        Check.feed(x, "days 0;");
        Check.dueThrow("runScript", Check.ARGUMENT, x::runScript);
        int length = x.writeShop(1);
        String output = Check.output(x, length);
        Check.feed(x, "complain 2;" + " ".repeat(489));
        String before = Check.state(x);
        Check.dueThrow(what, want, () -> change.make(x));
        Check.due("the state after " + what, Check.state(x), before);
        Check.due("the error after " + what, x.errorCode() + "/" + x.errorPosition(), "2/5");
        Check.due("the output after " + what, Check.output(x, length) + x.outputByte(length), output + "-1");
        Check.due("the length of the buffer after " + what, x.truncate(500), 500);
        Check.due("the buffer after " + what, x.runScript() + "/" + x.complaints(2), "1/1");
        Check.due("the changes after " + what, x.undo() + "/" + x.undo() + "/" + x.undo(), "2/1/0");
        Check.due("the snapshot after " + what, x.restoreSnapshot(0), 60);
        Check.dueThrow("the empty slot after " + what, Check.ELEMENT, () -> x.restoreSnapshot(1));
    }

    private static void missingShopsAndWeights() {
        Sentence.of(Sentence.TERMS, "An IndexOutOfBoundsException is thrown for a shop or a test weight that does not exist.");
        HonestScales x = Make.bureau(Make.QUIET, "1 2", Make.plain(2));
        Check.dueNoSuchShop("purse", x, x::purse);
        Check.dueNoSuchShop("visit", x, x::visit);
        for (int weight : new int[] {-1, 2, 6, Integer.MAX_VALUE, Integer.MIN_VALUE}) {
            Check.dueThrow("testWeight(" + weight + ")", Check.INDEX, () -> x.testWeight(weight));
        }
        HonestScales y = Make.bureau(Make.QUIET, "1 2 3 4 5 6", Make.plain(8));
        Check.dueNoSuchShop("purse", y, y::purse);
        Check.dueThrow("testWeight(6)", Check.INDEX, () -> y.testWeight(6));
    }

    private static void otherArguments() {
        Sentence.of(Sentence.TERMS, "An IllegalArgumentException is thrown for any other argument outside its range.");
        HonestScales x = new HonestScales();
        for (int far : new int[] {-1, 5001, Integer.MAX_VALUE, Integer.MIN_VALUE}) {
            Check.dueThrow("truncate(" + far + ")", Check.ARGUMENT, () -> x.truncate(far));
            Check.dueThrow("passDays(" + far + ")", Check.ARGUMENT, () -> x.passDays(far));
            Check.dueThrow("setThumb(0, " + far + ")", Check.ARGUMENT, () -> x.setThumb(0, far));
            Check.dueThrow("setInspectors(" + far + ")", Check.ARGUMENT, () -> x.setInspectors(far));
            Check.dueThrow("setFee(" + far + ")", Check.ARGUMENT, () -> x.setFee(far));
            Check.dueThrow("restoreSnapshot(" + far + ")", Check.ARGUMENT, () -> x.restoreSnapshot(far));
            Check.dueThrow("bound(" + far + ")", Check.ARGUMENT, () -> x.bound(far));
            Check.dueThrow("reading(0, " + far + ")", Check.ARGUMENT, () -> x.reading(0, far));
            Check.dueThrow("excess(0, " + far + ")", Check.ARGUMENT, () -> x.excess(0, far));
            Check.dueThrow("purseAfter(0, " + far + ")", Check.ARGUMENT, () -> x.purseAfter(0, far));
            Check.dueThrow("bestThumb(0, " + far + ")", Check.ARGUMENT, () -> x.bestThumb(0, far));
            Check.dueThrow("expiringStamps(" + far + ")", Check.ARGUMENT, () -> x.expiringStamps(far));
            Check.due("shopAtRank(" + far + ") and outputByte(" + far + ")", x.shopAtRank(far) + "/" + x.outputByte(far), "-1/-1");
        }
    }

    private static void exceptionListedFirst() {
        Sentence.of(Sentence.TERMS, "If several exceptions apply to a call, the one that is listed first in the description of the method is thrown.");
        HonestScales x = new HonestScales();
        for (int far : new int[] {-1, 5001, Integer.MAX_VALUE, Integer.MIN_VALUE}) {
            Check.dueNoSuchShop("setThumb with " + far, x, shop -> x.setThumb(shop, far));
            Check.dueNoSuchShop("reading of " + far, x, shop -> x.reading(shop, far));
            Check.dueNoSuchShop("excess of " + far, x, shop -> x.excess(shop, far));
            Check.dueNoSuchShop("purseAfter " + far, x, shop -> x.purseAfter(shop, far));
            Check.dueNoSuchShop("bestThumb after " + far, x, shop -> x.bestThumb(shop, far));
            Check.dueThrow("restoreSnapshot(" + far + "), where all slots are empty", Check.ARGUMENT, () -> x.restoreSnapshot(far));
        }
    }

    private TermsOfUndo() {
    }
}
