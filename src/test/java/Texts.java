/** Checks that a text is taken, or refused with an error at a place. */
final class Texts {
    /** Loads a setup that must have no error; answers the bureau. */
    static HonestScales taken(String setup) {
        HonestScales x = new HonestScales();
        Check.feed(x, setup);
        try {
            Check.due("loadSetup of '" + setup + "'", x.loadSetup(), setup.split("shop").length - 1);
        } catch (IllegalArgumentException e) {
            Check.due("loadSetup of '" + setup + "'", "an error", "none");
        }
        Check.due("errorCode of '" + setup + "'", x.errorCode(), 0);
        Check.due("errorPosition of '" + setup + "'", x.errorPosition(), HonestScales.NONE);
        return x;
    }

    static void refused(String setup, int code, int position) {
        HonestScales x = new HonestScales();
        Check.feed(x, setup);
        Check.dueThrow("loadSetup of '" + setup + "'", Check.ARGUMENT, x::loadSetup);
        Check.due("errorCode of '" + setup + "'", x.errorCode(), code);
        Check.due("errorPosition of '" + setup + "'", x.errorPosition(), position);
    }

    /** Runs a script on a new object, where it must have no error; answers the object. */
    static HonestScales scriptTaken(String script, int executed) {
        HonestScales x = new HonestScales();
        Check.feed(x, script);
        try {
            Check.due("runScript of '" + script + "'", x.runScript(), executed);
        } catch (IllegalArgumentException e) {
            Check.due("runScript of '" + script + "'", "an error", "none");
        }
        Check.due("errorCode of '" + script + "'", x.errorCode(), 0);
        Check.due("errorPosition of '" + script + "'", x.errorPosition(), HonestScales.NONE);
        return x;
    }

    static void scriptRefused(String script, int code, int position) {
        HonestScales x = new HonestScales();
        Check.feed(x, script);
        Check.dueThrow("runScript of '" + script + "'", Check.ARGUMENT, x::runScript);
        Check.due("errorCode of '" + script + "'", x.errorCode(), code);
        Check.due("errorPosition of '" + script + "'", x.errorPosition(), position);
    }

    /** A setup with one shop; the number in the middle must be refused as out of range. */
    static void shopNumberRefused(String before, String number, String after) {
        String text = Make.text(Make.QUIET, "1") + "shop " + before;
        refused(text + number + after + ";", HonestScales.RANGE, text.length());
    }

    /** The same for one of the numbers of the bureau. */
    static void bureauNumberRefused(String before, String number, String after) {
        String text = "bureau " + before;
        refused(text + number + after + ";weights 1;shop " + Make.PLAIN + ";", HonestScales.RANGE, text.length());
    }

    private Texts() {
    }
}
