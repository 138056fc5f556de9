/** Promise 7: scripts, their errors, and their execution. */
public final class ScriptTest {
    public static void main(String[] args) {
        commandsWorkLikeTheMethods();
        executionEndsBeforeWhatWouldThrow();
        scriptIsOneChange();
        failedScriptChangesOnlyTheBufferAndTheError();
        everyTokenHasItsPlace();
        everyNumberHasItsRange();
        atMostTwentyCommands();
        shopNumbersFollowTheSetup();
        Check.end();
    }

    private static void commandsWorkLikeTheMethods() {
        HonestScales x = new HonestScales();
        HonestScales y = new HonestScales();
        Check.due("empty", Check.script(x, ""), 0);
        Check.due("spaces", Check.script(x, "   "), 0);
        Check.due("nothing happened", Check.state(x), Check.state(y));
        Check.due("days", Check.script(x, "days 9;"), 1);
        y.passDays(9);
        Check.due("after days", Check.state(x), Check.state(y));
        Check.due("visit and complain", Check.script(x, "visit 1;complain 2;complain2;"), 3);
        y.visit(1);
        y.complain(2);
        y.complain(2);
        Check.due("after visit and complain", Check.state(x), Check.state(y));
        Check.due("thumb and repair", Check.script(x, " thumb 0 100 ; thumb 2 0000000000000077 ; repair 0 ; "), 3);
        y.setThumb(0, 100);
        y.setThumb(2, 77);
        y.repair(0);
        Check.due("after thumb and repair", Check.state(x), Check.state(y));
        x.setInspectors(0);
        y.setInspectors(0);
        String close = "days 100;visit 1;days 100;visit 1;days 100;visit 1;";
        Check.due("closing", Check.script(x, "thumb 1 3;" + close), closing(y));
        Check.due("after closing", Check.state(x), Check.state(y));
        Check.due("open", Check.script(x, "open 1;complain 1;"), 2);
        y.reopen(1);
        y.complain(1);
        Check.due("after open", Check.state(x), Check.state(y));
        Check.due("the buffer is empty", x.append(0, 0, 0, 0, 0), 20);
    }

    /** What the script does until shop 1 is closed, by the methods; answers how many commands that are. */
    private static int closing(HonestScales y) {
        y.setThumb(1, 3);
        int executed = 1;
        for (int i = 0; i < 3; i++) {
            y.passDays(100);
            executed++;
            if (!y.isOpen(1)) {
                return executed;
            }
            y.visit(1);
            executed++;
        }
        return executed;
    }

    private static void executionEndsBeforeWhatWouldThrow() {
        HonestScales x = Check.setup("bureau 0 0 99 1 50 0 0;weights 1;shop 9 510 50 5 1 0 0 0;shop 10 510 50 5 1 0 0 0;");
        Check.due("a repair with 9 coins", Check.script(x, "complain 0;repair 0;complain 0;"), 1);
        Check.due("complaints", x.complaints(0), 1);
        Check.due("purse", x.purse(0), 9);
        Check.due("offset", x.offset(0), 10);
        Check.due("no error", x.errorCode(), 0);
        Check.due("a repair with 10 coins", Check.script(x, "repair 1;complain 1;"), 2);
        Check.due("purse", x.purse(1), 0);
        Check.due("open for an open shop", Check.script(x, "thumb 1 5;open 1;thumb 1 6;"), 1);
        Check.due("thumb", x.thumb(1), 5);
        Check.due("visits", Check.script(x, "days 3;visit 0;days 3;visit 0;days 3;visit 0;thumb 0 9;visit 0;thumb 0 10;"), 7);
        Check.due("closed", x.isOpen(0), false);
        Check.due("thumb of a closed shop", x.thumb(0), 9);
        Check.due("visits", x.visits(), 3);
        Check.due("complain about a closed shop", Check.script(x, "complain 0;thumb 0 1;"), 0);
        Check.due("repair of a closed shop", Check.script(x, "days 1;repair 0;thumb 0 1;"), 1);
        Check.due("thumb", x.thumb(0), 9);
        Check.due("days with a closed shop", Check.script(x, "days 100;open 0;complain 0;open 0;"), 3);
        Check.due("day", x.day(), 110);
    }

    private static void scriptIsOneChange() {
        HonestScales x = new HonestScales();
        String before = Check.state(x);
        Check.script(x, "days 3;thumb 0 1;complain 1;days 5;visit 2;");
        Check.script(x, "");
        Check.script(x, "open 0;");
        Check.due("undo", x.undo(), 2);
        Check.due("undo", x.undo(), 1);
        Check.due("day", x.day(), 8);
        Check.due("undo", x.undo(), 0);
        Check.due("the state before", Check.state(x), before);
    }

    private static void failedScriptChangesOnlyTheBufferAndTheError() {
        HonestScales x = new HonestScales();
        String before = Check.state(x);
        Check.feed(x, "days 3;thumb 0 1;complain 3;");
        Check.dueThrow("runScript", Check.ARGUMENT, x::runScript);
        Check.due("the state", Check.state(x), before);
        Check.due("errorCode", x.errorCode(), HonestScales.RANGE);
        Check.due("errorPosition", x.errorPosition(), 26);
        Check.due("the buffer is empty", x.append(0, 0, 0, 0, 0), 20);
        Check.dueThrow("undo", Check.ELEMENT, x::undo);
    }

    /** Puts each kind of token, and the end, at each place of a script where it must not stand. */
    private static void everyTokenHasItsPlace() {
        String tokens = "days 3 ; visit 0 ; repair 0 ; thumb 0 7 ; complain 0 ; open 0 ;";
        String allowed = "verb/end n ; verb/end n ; verb/end n ; verb/end n n ; verb/end n ; verb/end n ; verb/end";
        String[] kinds = allowed.split(" ");
        String[] parts = (tokens + " ").split(" ");
        String text = "";
        for (int i = 0; i < kinds.length; i++) {
            for (String token : new String[] {"days", "visit", "repair", "thumb", "complain", "open"}) {
                misplaced(text, token, kinds[i].contains("verb"));
            }
            for (String token : new String[] {"shop", "day", "dayss", "daysz", "visita", "opem", "z", "reopen", "Days", "-", "\u00e4", "\0", "\n"}) {
                misplaced(text, token, false);
            }
            misplaced(text, "0", kinds[i].contains("n/") || kinds[i].equals("n"));
            misplaced(text, ";", kinds[i].equals(";"));
            misplaced(text, "", kinds[i].endsWith("end"));
            text = i < parts.length ? text + parts[i] + " " : text;
        }
        Texts.scriptRefused("days 3;;", HonestScales.SYNTAX, 7);
        Texts.scriptRefused("visitvisit 0;", HonestScales.SYNTAX, 0);
        Texts.scriptRefused("visit", HonestScales.SYNTAX, 5);
        Texts.scriptRefused("visit   ", HonestScales.SYNTAX, 8);
        Texts.scriptRefused("visit 9 9", HonestScales.RANGE, 6);
        Texts.scriptRefused("thumb 0 101", HonestScales.RANGE, 8);
    }

    private static void misplaced(String text, String token, boolean allowed) {
        if (!allowed) {
            Texts.scriptRefused(text + token, HonestScales.SYNTAX, text.length());
        }
    }

    private static void everyNumberHasItsRange() {
        for (String number : new String[] {"0", "101", "00", "4294967297", "18446744073709551617", "99999999999999999999"}) {
            Texts.scriptRefused("days " + number + ";", HonestScales.RANGE, 5);
        }
        for (String number : new String[] {"3", "8", "4294967296", "18446744073709551616", "99999999999999999999"}) {
            Texts.scriptRefused("visit " + number + ";", HonestScales.RANGE, 6);
            Texts.scriptRefused("repair " + number + ";", HonestScales.RANGE, 7);
            Texts.scriptRefused("complain " + number + ";", HonestScales.RANGE, 9);
            Texts.scriptRefused("open " + number + ";", HonestScales.RANGE, 5);
            Texts.scriptRefused("thumb " + number + " 1;", HonestScales.RANGE, 6);
        }
        Texts.scriptRefused("thumb 2 101;", HonestScales.RANGE, 8);
        Texts.scriptRefused("thumb 2 4294967296;", HonestScales.RANGE, 8);
        HonestScales x = new HonestScales();
        Check.due("the edges", Check.script(x, "days 1;days 100;thumb 2 0;thumb 2 100;"), 4);
        Check.due("day", x.day(), 101);
        Check.due("thumb", x.thumb(2), 100);
    }

    private static void atMostTwentyCommands() {
        String twenty = "days1;days1;thumb0 1;days1;days1;".repeat(4);
        HonestScales x = new HonestScales();
        Check.due("twenty commands", Check.script(x, twenty), 20);
        Check.due("day", x.day(), 16);
        Texts.scriptRefused(twenty + "days 1;", HonestScales.LIMIT, twenty.length());
        Texts.scriptRefused(twenty + "  open", HonestScales.LIMIT, twenty.length() + 2);
        Texts.scriptRefused(twenty + "visit 99;", HonestScales.LIMIT, twenty.length());
        Texts.scriptRefused(twenty + "shop", HonestScales.SYNTAX, twenty.length());
        Texts.scriptRefused(twenty + "1", HonestScales.SYNTAX, twenty.length());
        Texts.scriptRefused(twenty + ";", HonestScales.SYNTAX, twenty.length());
        Texts.scriptRefused(twenty + "\n", HonestScales.SYNTAX, twenty.length());
    }

    private static void shopNumbersFollowTheSetup() {
        HonestScales x = Check.setup("bureau 0 0 0 1 1 0 0;weights 1;shop 0 500 50 5 1 0 0 0;");
        Check.due("shop 0", Check.script(x, "complain 0;"), 1);
        Check.feed(x, "complain 1;");
        Check.dueThrow("runScript", Check.ARGUMENT, x::runScript);
        Check.due("errorPosition", x.errorPosition(), 9);
        x.undo();
        x.undo();
        Check.due("shop 2 is back", Check.script(x, "complain 2;"), 1);
    }
}
