/** The edges of promises 1 to 7: a new object, the input buffer, and the two kinds of texts. */
final class PromisesOfInput {
    private static final String FIRST = "bureau 5 10 4 10 20 1 7; weights 100 500 2000; shop 100 500 50 7 250 10 20 3; "
        + "shop 50 530 50 5 1000 4 0 0; shop 200 480 60 4 100 30 0 5;";
    private static final String SMALL = "bureau 0 0 1 1 1 0 0;weights 1;shop 0 500 50 5 1 0 0 0;";

    static void test() {
        Check.each(
            PromisesOfInput::newObject,
            PromisesOfInput::newObjectHasNoChanges,
            PromisesOfInput::appendOrder,
            PromisesOfInput::appendParts,
            PromisesOfInput::appendLength,
            PromisesOfInput::appendBeyond500,
            PromisesOfInput::truncateKeeps,
            PromisesOfInput::truncateEdges,
            PromisesOfInput::errorCode,
            PromisesOfInput::errorPosition,
            PromisesOfInput::loadSetupReplaces,
            PromisesOfInput::loadSetupKeeps,
            PromisesOfInput::loadSetupEmptiesTheBuffer,
            PromisesOfInput::loadSetupReturns,
            PromisesOfInput::loadSetupRefuses,
            PromisesOfInput::runScriptExecutes,
            PromisesOfInput::runScriptEmptiesTheBuffer,
            PromisesOfInput::runScriptReturns,
            PromisesOfInput::runScriptRefuses);
    }

    private static void newObject() {
        Sentence.of(1, "with an empty input buffer, an empty output text and no snapshots.");
        HonestScales x = new HonestScales();
        Check.due("as by the setup", Check.state(x), Check.state(Check.setup(FIRST)));
        Check.due("all caution too", x.purseAfter(0, 200) + "/" + x.purseAfter(1, 200) + "/" + x.purseAfter(2, 200), pursesAfter200());
        Check.dueThrow("the buffer has not even a byte", Check.ARGUMENT, () -> x.truncate(1));
        Check.due("the buffer", x.append(0, 0, 0, 0, 0), 20);
        Check.due("the output", x.outputByte(0), HonestScales.NONE);
        Check.dueThrow("slot 0", Check.ELEMENT, () -> x.restoreSnapshot(0));
        Check.dueThrow("slot 1", Check.ELEMENT, () -> x.restoreSnapshot(1));
    }

    private static String pursesAfter200() {
        HonestScales x = Check.setup(FIRST);
        x.passDays(100);
        x.passDays(100);
        return x.purse(0) + "/" + x.purse(1) + "/" + x.purse(2);
    }

    private static void newObjectHasNoChanges() {
        Sentence.of(1, "No change can be undone.");
        HonestScales x = new HonestScales();
        Check.dueThrow("undo", Check.ELEMENT, x::undo);
        x.complain(0);
        Check.due("undo of the first change", x.undo(), 0);
    }

    private static void appendOrder() {
        Sentence.of(2, "Appends twenty bytes to the input buffer: the four bytes of each argument, the most significant byte first.");
        HonestScales x = new HonestScales();
        // "complain 0;complain 0;days 1;days100;   "
        x.append(0x636f6d70, 0x6c61696e, 0x20303b63, 0x6f6d706c, 0x61696e20);
        x.append(0x303b6461, 0x79732031, 0x3b646179, 0x73313030, 0x3b202020);
        Check.due("forty bytes", x.runScript() + "/" + x.day(), "4/101");
        for (int place = 0; place < 20; place++) {
            for (int odd : new int[] {0x00, 0x7f, 0x80, 0xff}) {
                HonestScales y = new HonestScales();
                int[] spaces = {0x20202020, 0x20202020, 0x20202020, 0x20202020, 0x20202020};
                spaces[place / 4] ^= (0x20 ^ odd) << 24 - place % 4 * 8;
                y.append(spaces[0], spaces[1], spaces[2], spaces[3], spaces[4]);
                Check.dueThrow("byte " + odd + " at " + place, Check.ARGUMENT, y::runScript);
                Check.due("its place", y.errorPosition(), place);
            }
        }
    }

    private static void appendParts() {
        Sentence.of(2, "- `a`: first four bytes");
        partDue(0);
        Sentence.of(2, "- `b`: next four bytes");
        partDue(1);
        Sentence.of(2, "- `c`: next four bytes");
        partDue(2);
        Sentence.of(2, "- `d`: next four bytes");
        partDue(3);
        Sentence.of(2, "- `e`: last four bytes");
        partDue(4);
    }

    /** A question mark stands first in one of the five, and last. */
    private static void partDue(int part) {
        for (int last = 0; last < 2; last++) {
            HonestScales x = new HonestScales();
            int[] five = {0x20202020, 0x20202020, 0x20202020, 0x20202020, 0x20202020};
            five[part] = last == 0 ? 0x3f202020 : 0x2020203f;
            x.append(0x20202020, 0x20202020, 0x20202020, 0x20202020, 0x20202020);
            x.append(five[0], five[1], five[2], five[3], five[4]);
            Check.dueThrow("a strange byte", Check.ARGUMENT, x::runScript);
            Check.due("its place", x.errorPosition(), 20 + 4 * part + 3 * last);
        }
    }

    private static void appendLength() {
        Sentence.of(2, "Returns the new length of the buffer.");
        HonestScales x = new HonestScales();
        for (int i = 1; i <= 25; i++) {
            Check.due("append", x.append(0, -1, Integer.MAX_VALUE, Integer.MIN_VALUE, 1), 20 * i);
        }
        x.truncate(7);
        Check.due("behind seven bytes", x.append(0, 0, 0, 0, 0), 27);
        x.truncate(0);
        Check.due("an empty buffer", x.append(0, 0, 0, 0, 0), 20);
    }

    private static void appendBeyond500() {
        Sentence.of(2, "Throws `IllegalStateException` if the new length would exceed 500");
        for (int length : new int[] {500, 499, 481}) {
            HonestScales x = full();
            x.truncate(length);
            Check.dueThrow("append to " + length, Check.STATE, () -> x.append(0x3f3f3f3f, 0, 0, 0, 0));
            int beyond = length + 1;
            Check.dueThrow("no byte was appended", Check.ARGUMENT, () -> x.truncate(beyond));
            Check.due("the length stays", x.truncate(length), length);
            Check.due("what is in it stays", x.runScript(), 0);
        }
        HonestScales y = full();
        y.truncate(480);
        Check.due("append to 480", y.append(0x20202020, 0x20202020, 0x20202020, 0x20202020, 0x2020203f), 500);
        Check.dueThrow("all 500 are read", Check.ARGUMENT, y::runScript);
        Check.due("the last byte", y.errorPosition(), 499);
    }

    private static HonestScales full() {
        HonestScales x = new HonestScales();
        for (int i = 0; i < 25; i++) {
            x.append(0x20202020, 0x20202020, 0x20202020, 0x20202020, 0x20202020);
        }
        return x;
    }

    private static void truncateKeeps() {
        Sentence.of(3, "Shortens the input buffer to its first bytes.");
        HonestScales x = new HonestScales();
        Check.feed(x, "complain 0;complain 1;complain 2;");
        x.truncate(22);
        Check.due("two commands are left", x.runScript() + "/" + x.complaints(0) + x.complaints(1) + x.complaints(2), "2/110");
        Check.feed(x, "days 12;");
        x.truncate(6);
        Check.dueThrow("the end of the text is gone", Check.ARGUMENT, x::runScript);
        Check.due("there it ends", x.errorPosition(), 6);
        Check.feed(x, "days 12;");
        x.truncate(6);
        x.append(0x3b202020, 0x20202020, 0x20202020, 0x20202020, 0x20202020);
        Check.due("what is appended stands behind the first bytes", x.runScript() + "/" + x.day(), "1/1");
        Check.feed(x, "complain 0;complain 0;");
        x.truncate(0);
        Check.due("nothing is left", x.runScript(), 0);
    }

    private static void truncateEdges() {
        Sentence.of(3, "- `length`: the new length, 0 to the current length");
        HonestScales x = new HonestScales();
        Check.due("an empty buffer", x.truncate(0), 0);
        x.append(0, 0, 0, 0, 0);
        Sentence.of(3, "Returns the new length.");
        Check.due("the current length", x.truncate(20), 20);
        Check.due("one less", x.truncate(19), 19);
        Check.due("1", x.truncate(1), 1);
        Check.due("0", x.truncate(0), 0);
        Check.due("a full buffer", full().truncate(500), 500);
        Sentence.of(3, "Throws `IllegalArgumentException` if length is out of range");
        Check.dueThrow("1 of an empty buffer", Check.ARGUMENT, () -> x.truncate(1));
        Check.dueThrow("-1 of an empty buffer", Check.ARGUMENT, () -> x.truncate(-1));
        x.append(0, 0, 0, 0, 0);
        for (int wrong : new int[] {-1, 21, Integer.MAX_VALUE, Integer.MIN_VALUE}) {
            Check.dueThrow(wrong + " of twenty bytes", Check.ARGUMENT, () -> x.truncate(wrong));
            Check.due("the length stays", x.truncate(20), 20);
        }
        x.truncate(5);
        Check.dueThrow("bytes that were cut off", Check.ARGUMENT, () -> x.truncate(6));
        Check.dueThrow("501 of a full buffer", Check.ARGUMENT, () -> full().truncate(501));
    }

    private static void errorCode() {
        Sentence.of(4, "Returns the error code of the latest call of loadSetup or runScript.");
        HonestScales x = new HonestScales();
        fail(x, "days 0;");
        Check.due("of a script", x.errorCode(), HonestScales.RANGE);
        Check.feed(x, "bureau 0 0 1 1 1 0 0;weights 5 5");
        Check.due("not before the call", x.errorCode(), HonestScales.RANGE);
        Check.dueThrow("loadSetup", Check.ARGUMENT, x::loadSetup);
        Check.due("of a setup", x.errorCode(), HonestScales.TWICE);
        x.passDays(1);
        x.undo();
        x.saveSnapshot(0);
        x.restoreSnapshot(0);
        Check.due("after other calls", x.errorCode(), HonestScales.TWICE);
        Sentence.of(4, "Returns SYNTAX, RANGE, TWICE or LIMIT; 0 if that text had no error or there was no such call.");
        Check.due("no such call", new HonestScales().errorCode(), 0);
        fail(x, "?");
        Check.due("SYNTAX", x.errorCode(), HonestScales.SYNTAX);
        fail(x, "days 1;".repeat(20) + "days");
        Check.due("LIMIT", x.errorCode(), HonestScales.LIMIT);
        Check.script(x, "");
        Check.due("an empty script", x.errorCode(), 0);
        fail(x, "?");
        Check.script(x, "open 0;");
        Check.due("a script that ends before its first command", x.errorCode(), 0);
        fail(x, "?");
        Check.feed(x, SMALL);
        x.loadSetup();
        Check.due("a setup without an error", x.errorCode(), 0);
    }

    private static void fail(HonestScales x, String script) {
        Check.feed(x, script);
        Check.dueThrow("runScript of " + script, Check.ARGUMENT, x::runScript);
    }

    private static void errorPosition() {
        Sentence.of(5, "Returns the error position of the latest call of loadSetup or runScript.");
        HonestScales x = new HonestScales();
        fail(x, "days 0;");
        Check.due("of a script", x.errorPosition(), 5);
        Check.feed(x, "  bureaus");
        Check.due("not before the call", x.errorPosition(), 5);
        Check.dueThrow("loadSetup", Check.ARGUMENT, x::loadSetup);
        Check.due("of a setup", x.errorPosition(), 2);
        x.passDays(1);
        x.undo();
        Check.due("after other calls", x.errorPosition(), 2);
        Sentence.of(5, "Returns the position;");
        fail(x, "?");
        Check.due("the first byte", x.errorPosition(), 0);
        fail(x, " ".repeat(499) + "?");
        Check.due("the last byte", x.errorPosition(), 499);
        fail(x, "days" + " ".repeat(496));
        Check.due("the end of a full buffer", x.errorPosition(), 500);
        Sentence.of(5, "NONE if that text had no error or there was no such call.");
        Check.due("no such call", new HonestScales().errorPosition(), HonestScales.NONE);
        Check.script(x, "");
        Check.due("an empty script", x.errorPosition(), HonestScales.NONE);
        fail(x, "?");
        Check.script(x, "open 0;");
        Check.due("a script that ends before its first command", x.errorPosition(), HonestScales.NONE);
        fail(x, "?");
        Check.feed(x, SMALL);
        x.loadSetup();
        Check.due("a setup without an error", x.errorPosition(), HonestScales.NONE);
    }

    private static void loadSetupReplaces() {
        Sentence.of(6, "Parses the input buffer as a setup and replaces the state by it.");
        HonestScales x = new HonestScales();
        x.setInspectors(3);
        Check.script(x, "days 100;complain 0;complain 1;complain 2;thumb 0 99;");
        Check.due("another state", Check.state(x).equals(Check.state(new HonestScales())), false);
        Check.feed(x, FIRST);
        x.loadSetup();
        Check.due("nothing of the earlier state is left", Check.state(x), Check.state(new HonestScales()));
        // Eight shops and six weights give way to one, and come back.
        HonestScales y = Make.bureau(Make.QUIET, "1 2 3 4 5 6", Make.plain(8));
        Check.feed(y, SMALL);
        y.loadSetup();
        Check.due("one of each", y.shopCount() + "/" + y.weightCount() + "/" + y.openShops(), "1/1/1");
        Check.dueThrow("the second shop", Check.INDEX, () -> y.purse(1));
        Check.dueThrow("the second weight", Check.INDEX, () -> y.testWeight(1));
        y.undo();
        Check.due("eight and six", y.shopCount() + "/" + y.weightCount() + "/" + y.purse(7) + "/" + y.testWeight(5), "8/6/0/6");
    }

    private static void loadSetupKeeps() {
        Sentence.of(6, "Snapshots and earlier changes stay.");
        HonestScales x = new HonestScales();
        x.passDays(1);
        x.saveSnapshot(0);
        x.passDays(1);
        x.saveSnapshot(1);
        Check.feed(x, SMALL);
        x.loadSetup();
        Check.due("slot 0", x.restoreSnapshot(0), 1);
        x.undo();
        Check.due("slot 1", x.restoreSnapshot(1), 2);
        x.undo();
        Check.due("undo of the setup", x.undo() + "/" + x.day(), "2/2");
        Check.due("undo of the changes before it", x.undo() + "/" + x.undo() + "/" + x.day(), "1/0/0");
        HonestScales y = new HonestScales();
        for (int i = 0; i < 8; i++) {
            y.passDays(1);
        }
        Check.feed(y, SMALL);
        y.loadSetup();
        Check.due("a setup is one of the 8 latest changes", y.undo() + "/" + y.day(), "7/8");
    }

    private static void loadSetupEmptiesTheBuffer() {
        Sentence.of(6, "The buffer is empty afterwards, even if an exception is thrown.");
        for (String text : new String[] {SMALL, "", "?", SMALL + "?", " ".repeat(500)}) {
            HonestScales x = new HonestScales();
            Check.feed(x, text);
            try {
                x.loadSetup();
            } catch (IllegalArgumentException e) {
                Check.due("an error of the text", x.errorCode(), HonestScales.SYNTAX);
            }
            Check.dueThrow("no byte is left of '" + text + "'", Check.ARGUMENT, () -> x.truncate(1));
            Check.due("the length after '" + text + "'", x.append(0, 0, 0, 0, 0), 20);
        }
    }

    private static void loadSetupReturns() {
        Sentence.of(6, "Returns the number of shops.");
        for (int shops = 1; shops <= 8; shops++) {
            HonestScales x = new HonestScales();
            Check.feed(x, Make.text(Make.QUIET, "1", Make.plain(shops)));
            Check.due("loadSetup", x.loadSetup(), shops);
        }
    }

    private static void loadSetupRefuses() {
        Sentence.of(6, "Throws `IllegalArgumentException` if the text has an error; then only the buffer and the reported error change");
        String shop = "shop 5 505 55 6 7 8 9 10;";
        for (String bad : new String[] {"", "?", "bureau 9 9 9 9 9 2 51", "bureau 9 9 9 9 9 2 9;weights 9 9;", "bureau 9 9 9 9 9 2 9;weights 9;" + shop + "shop",
            "bureau 9 9 9 9 9 2 9;weights 9;" + shop.repeat(8) + "shop"}) {
            HonestScales x = new HonestScales();
            x.passDays(3);
            x.saveSnapshot(1);
            int length = x.writeShop(0);
            String before = Check.state(x) + Check.output(x, length);
            Check.feed(x, bad);
            Check.dueThrow("loadSetup of " + bad, Check.ARGUMENT, x::loadSetup);
            Check.due("the state after " + bad, Check.state(x) + Check.output(x, length), before);
            Check.due("an error of " + bad, x.errorCode() > 0 && x.errorPosition() >= 0, true);
            Check.due("the buffer after " + bad, x.append(0, 0, 0, 0, 0), 20);
            Check.due("the changes after " + bad, x.undo() + "/" + x.restoreSnapshot(1), "0/3");
            Check.dueThrow("slot 0 after " + bad, Check.ELEMENT, () -> x.restoreSnapshot(0));
        }
    }

    private static void runScriptExecutes() {
        Sentence.of(7, "Parses the input buffer as a script and executes it.");
        HonestScales x = new HonestScales();
        x.setInspectors(0);
        Check.script(x, "days 20;visit 1;days 20;visit 1;days 20;visit 1;open 1;thumb 1 100;complain 1;repair 0;");
        Check.due("all of it", x.day() + "/" + x.isOpen(1) + "/" + x.thumb(1) + "/" + x.complaints(1) + "/" + x.offset(0) + x.slope(0), "60/true/100/1/00");
        Check.due("an empty one", x.runScript(), 0);
        Check.due("twenty commands", Check.script(x, "complain 2;".repeat(20)) + "/" + x.complaints(2), "20/20");
    }

    private static void runScriptEmptiesTheBuffer() {
        Sentence.of(7, "The buffer is empty afterwards, even if an exception is thrown.");
        for (String text : new String[] {"days 1;", "", "?", "days 1;?", "open 0;days 1;", " ".repeat(500)}) {
            HonestScales x = new HonestScales();
            Check.feed(x, text);
            try {
                x.runScript();
            } catch (IllegalArgumentException e) {
                Check.due("an error of the text", x.errorCode(), HonestScales.SYNTAX);
            }
            Check.dueThrow("no byte is left of '" + text + "'", Check.ARGUMENT, () -> x.truncate(1));
            Check.due("the length after '" + text + "'", x.append(0, 0, 0, 0, 0), 20);
        }
    }

    private static void runScriptReturns() {
        Sentence.of(7, "Returns the number of commands that were executed.");
        HonestScales x = new HonestScales();
        Check.due("none", Check.script(x, ""), 0);
        Check.due("ended before the first one", Check.script(x, "open 0;complain 0;"), 0);
        Check.due("one", Check.script(x, "complain 0;"), 1);
        Check.due("ended before the last one", Check.script(x, "complain 0;complain 0;open 0;"), 2);
        Check.due("twenty", Check.script(x, "complain 0;".repeat(20)), 20);
        Check.due("ended before the twentieth", Check.script(x, "complain 0;".repeat(19) + "open 0;"), 19);
    }

    private static void runScriptRefuses() {
        Sentence.of(7, "Throws `IllegalArgumentException` if the text has an error; then only the buffer and the reported error change");
        String good = "days 1;complain 0;thumb 1 5;visit 0;repair 0;";
        for (String bad : new String[] {"?", good + "?", good + "complain 3;", good + "days", good.repeat(4) + "days"}) {
            HonestScales x = new HonestScales();
            x.passDays(3);
            x.saveSnapshot(1);
            int length = x.writeShop(0);
            String before = Check.state(x) + Check.output(x, length);
            Check.feed(x, bad);
            Check.dueThrow("runScript of " + bad, Check.ARGUMENT, x::runScript);
            Check.due("the state after " + bad, Check.state(x) + Check.output(x, length), before);
            Check.due("an error of " + bad, x.errorCode() > 0 && x.errorPosition() >= 0, true);
            Check.due("the buffer after " + bad, x.append(0, 0, 0, 0, 0), 20);
            Check.due("the changes after " + bad, x.undo() + "/" + x.restoreSnapshot(1), "0/3");
            Check.dueThrow("slot 0 after " + bad, Check.ELEMENT, () -> x.restoreSnapshot(0));
        }
    }

    private PromisesOfInput() {
    }
}
