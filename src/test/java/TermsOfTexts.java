import java.util.ArrayList;
import java.util.List;

/** The edges in "Terms" of tokens, the grammar, errors and the execution of scripts. */
final class TermsOfTexts {
    private static final String HEAD = "bureau 0 0 1 1 1 0 0;";
    private static final String WEIGHTS = "weights 1;";
    private static final String SHOP = "shop 0 500 50 5 1 0 0 0;";
    private static final String EIGHT = HEAD + WEIGHTS + SHOP.repeat(8);
    private static final String TWENTY = "complain 0;".repeat(20);

    static void test() {
        Check.each(
            TermsOfTexts::bufferHoldsBytes,
            TermsOfTexts::tokens,
            TermsOfTexts::spaces,
            TermsOfTexts::wordsAndNumbersTouch,
            TermsOfTexts::grammarOfSetups,
            TermsOfTexts::grammarOfAShop,
            TermsOfTexts::grammarOfScripts,
            TermsOfTexts::grammarOfCommands,
            TermsOfTexts::rangesGivenAbove,
            TermsOfTexts::rangesGivenHere,
            TermsOfTexts::firstTokenWithAnError,
            TermsOfTexts::positionOfAToken,
            TermsOfTexts::positionOfTheEnd,
            TermsOfTexts::smallestCode,
            TermsOfTexts::syntaxErrors,
            TermsOfTexts::rangeErrors,
            TermsOfTexts::weightsNamedTwice,
            TermsOfTexts::limits,
            TermsOfTexts::constants,
            TermsOfTexts::scriptsAreExecuted,
            TermsOfTexts::commandsAreMethods,
            TermsOfTexts::executionEndsBefore);
    }

    private static void bufferHoldsBytes() {
        Sentence.of(Sentence.TERMS, "The input buffer holds bytes.");
        for (int one = 0; one < 256; one++) {
            boolean token = one == ' ' || one == ';' || one >= '0' && one <= '9' || one >= 'a' && one <= 'z';
            String text = "complain " + (char) one;
            int end = text.length();
            if (one >= '0' && one <= '2') {
                Texts.scriptRefused(text, HonestScales.SYNTAX, end);
            } else if (one >= '3' && one <= '9') {
                Texts.scriptRefused(text, HonestScales.RANGE, end - 1);
            } else {
                Texts.scriptRefused(text, HonestScales.SYNTAX, one == ' ' ? end : end - 1);
            }
            if (!token) {
                Texts.scriptRefused((char) one + "complain 0;", HonestScales.SYNTAX, 0);
                Texts.scriptRefused("complain" + (char) one + " 0;", HonestScales.SYNTAX, 8);
                Texts.scriptRefused("complain 0" + (char) one + ";", HonestScales.SYNTAX, 10);
                Texts.scriptRefused("complain 0;" + (char) one, HonestScales.SYNTAX, 11);
                Texts.scriptRefused("days" + (char) one + "1;", HonestScales.SYNTAX, 4);
            }
        }
    }

    private static void tokens() {
        Sentence.of(Sentence.TERMS, "A token is a word (a maximal run of the letters a to z), a number (a maximal run of the digits 0 to 9, of any length, leading zeros allowed), or a semicolon.");
        Texts.scriptRefused("complaina 0;", HonestScales.SYNTAX, 0);
        Texts.scriptRefused("complainz 0;", HonestScales.SYNTAX, 0);
        Texts.scriptRefused("complai 0;", HonestScales.SYNTAX, 0);
        Texts.scriptRefused("acomplain 0;", HonestScales.SYNTAX, 0);
        Texts.scriptRefused("openopen 0;", HonestScales.SYNTAX, 0);
        Texts.scriptTaken("complain 00;complain 02;days 001;thumb 0 0100;", 4);
        Texts.scriptTaken("complain " + "0".repeat(489) + "2;", 1);
        Texts.scriptRefused("complain " + "0".repeat(489) + "3;", HonestScales.RANGE, 9);
        Texts.scriptRefused("complain " + "9".repeat(491), HonestScales.RANGE, 9);
        for (String wraps : new String[] {"256", "65536", "4294967296", "18446744073709551616", "1" + "0".repeat(300)}) {
            Texts.scriptRefused("complain " + wraps + ";", HonestScales.RANGE, 9);
        }
        Texts.scriptRefused("complain 0;;", HonestScales.SYNTAX, 11);
    }

    private static void spaces() {
        Sentence.of(Sentence.TERMS, "Spaces (byte 32) may stand before, between and after tokens and have no other meaning.");
        Texts.scriptTaken("complain 0;", 1);
        Texts.scriptTaken("   complain   0   ;   ", 1);
        Texts.scriptTaken(" ".repeat(489) + "complain 0;", 1);
        Texts.scriptTaken("complain 0;" + " ".repeat(489), 1);
        Texts.scriptTaken("complain" + " ".repeat(490) + "0;", 1);
        Texts.scriptTaken(" ".repeat(500), 0);
        Texts.scriptRefused("com plain 0;", HonestScales.SYNTAX, 0);
        Texts.scriptRefused("thumb 1 0 0;", HonestScales.SYNTAX, 10);
        for (char other : new char[] {'\t', '\n', '\r', '\0', '\u00a0', '_'}) {
            Texts.scriptRefused("complain" + other + "0;", HonestScales.SYNTAX, 8);
        }
    }

    private static void wordsAndNumbersTouch() {
        Sentence.of(Sentence.TERMS, "A word and a number need no space between them.");
        Texts.scriptTaken("days1;thumb0 7;complain2;", 3);
        Texts.taken("bureau0 0 1 1 1 0 0;weights1;shop0 500 50 5 1 0 0 0;");
        Texts.scriptRefused("complain 0days 1;", HonestScales.SYNTAX, 10);
        Texts.scriptRefused("0days 1;", HonestScales.SYNTAX, 0);
        Texts.scriptRefused("thumb 07;", HonestScales.RANGE, 6);
        Texts.scriptRefused("thumb 01;", HonestScales.SYNTAX, 8);
    }

    private static void grammarOfSetups() {
        Sentence.of(Sentence.TERMS, "setup = \"bureau\" BASE RATE FEE VALIDITY PRICE INSPECTORS SEED \";\" \"weights\" GRAMS { GRAMS } \";\" SHOP \";\" { SHOP \";\" }");
        Texts.taken(HEAD + "weights 1;" + SHOP);
        Texts.taken(HEAD + "weights 1 2;" + SHOP + SHOP);
        Texts.taken(HEAD + "weights 1 2 3 4 5 6;" + SHOP.repeat(8));
        Texts.refused(HEAD + "weights;" + SHOP, HonestScales.SYNTAX, 28);
        Texts.refused(HEAD + WEIGHTS, HonestScales.SYNTAX, 31);
        Texts.refused(HEAD + SHOP, HonestScales.SYNTAX, 21);
        Texts.refused(WEIGHTS + SHOP, HonestScales.SYNTAX, 0);
        Texts.refused("bureau 0 0 1 1 1 0;", HonestScales.SYNTAX, 18);
        Texts.refused("bureau 0 0 1 1 1 0 0 0;", HonestScales.SYNTAX, 21);
        Texts.refused("bureau 0 0 1 1 1 0 0 weights", HonestScales.SYNTAX, 21);
        Texts.refused(HEAD + ";" + WEIGHTS + SHOP, HonestScales.SYNTAX, 21);
        Texts.refused(HEAD + HEAD, HonestScales.SYNTAX, 21);
        Texts.refused(HEAD + WEIGHTS + WEIGHTS, HonestScales.SYNTAX, 31);
        Texts.refused(HEAD + WEIGHTS + ";" + SHOP, HonestScales.SYNTAX, 31);
        Texts.refused(HEAD + WEIGHTS + SHOP + ";", HonestScales.SYNTAX, 55);
        Texts.refused(HEAD + WEIGHTS + SHOP + WEIGHTS, HonestScales.SYNTAX, 55);
        Texts.refused(HEAD + WEIGHTS + SHOP + "5", HonestScales.SYNTAX, 55);
        for (String other : similar("bureau")) {
            Texts.refused(other + HEAD.substring(6) + WEIGHTS + SHOP, HonestScales.SYNTAX, 0);
        }
        for (String other : similar("weights")) {
            Texts.refused(HEAD + other + " 1;" + SHOP, HonestScales.SYNTAX, 21);
        }
    }

    /** The words that differ from a word in a letter, or have one more or one less. */
    private static List<String> similar(String word) {
        List<String> words = new ArrayList<>(List.of(word + "s", "a" + word, word.substring(1), word.substring(0, word.length() - 1)));
        for (int i = 0; i < word.length(); i++) {
            words.add(word.substring(0, i) + (word.charAt(i) == 'z' ? 'a' : 'z') + word.substring(i + 1));
        }
        return words;
    }

    private static void grammarOfAShop() {
        Sentence.of(Sentence.TERMS, "SHOP = \"shop\" PURSE OFFSET SLOPE DRIFT PORTION SALES THUMB CAUTION");
        String before = HEAD + WEIGHTS;
        Texts.refused(before + "shop 0 500 50 5 1 0 0;", HonestScales.SYNTAX, 52);
        Texts.refused(before + "shop 0 500 50 5 1 0 0 0 0;", HonestScales.SYNTAX, 55);
        Texts.refused(before + "shop;", HonestScales.SYNTAX, 35);
        Texts.refused(before + "shop shop", HonestScales.SYNTAX, 36);
        Texts.refused(before + "shop 0 500 50 5 1 0 0 0 shop", HonestScales.SYNTAX, 55);
        Texts.refused(before + "0 500 50 5 1 0 0 0;", HonestScales.SYNTAX, 31);
        for (String other : similar("shop")) {
            Texts.refused(before + other + " 0 500 50 5 1 0 0 0;", HonestScales.SYNTAX, 31);
            Texts.refused(before + SHOP + other + " 0 500 50 5 1 0 0 0;", HonestScales.SYNTAX, 55);
        }
        HonestScales x = Texts.taken(HEAD + WEIGHTS + "shop 11 522 53 9 1000 50 77 30;");
        Check.due("numbers", x.purse(0) + "/" + x.offset(0) + "/" + x.slope(0) + "/" + x.drift(0) + "/" + x.thumb(0), "11/22/3/4/77");
        // 50 sales of 22 + 4 + 3 + 77 grams at a price of 1.
        Check.due("gain", x.nextGain(0), 5);
        x.visit(0);
        Check.due("caution", x.usesThumb(0), false);
    }

    private static void grammarOfScripts() {
        Sentence.of(Sentence.TERMS, "script = { command \";\" }");
        Texts.scriptTaken("", 0);
        Texts.scriptTaken(" ", 0);
        Texts.scriptTaken("complain 0;", 1);
        Texts.scriptTaken(TWENTY, 20);
        Texts.scriptRefused(";", HonestScales.SYNTAX, 0);
        Texts.scriptRefused("complain 0", HonestScales.SYNTAX, 10);
        Texts.scriptRefused("complain 0 complain 0;", HonestScales.SYNTAX, 11);
        Texts.scriptRefused("complain 0;;complain 0;", HonestScales.SYNTAX, 11);
        Texts.scriptRefused(HEAD, HonestScales.SYNTAX, 0);
    }

    private static void grammarOfCommands() {
        Sentence.of(Sentence.TERMS, "command = \"days\" COUNT | \"visit\" SHOPNUMBER | \"repair\" SHOPNUMBER | \"thumb\" SHOPNUMBER THUMB | \"complain\" SHOPNUMBER | \"open\" SHOPNUMBER");
        Texts.scriptTaken("days 1;visit 0;repair 0;thumb 0 1;complain 0;", 5);
        for (String verb : new String[] {"days", "visit", "repair", "complain", "open"}) {
            Texts.scriptRefused(verb + ";", HonestScales.SYNTAX, verb.length());
            Texts.scriptRefused(verb + " 1 1;", HonestScales.SYNTAX, verb.length() + 3);
            Texts.scriptRefused(verb + " " + verb, HonestScales.SYNTAX, verb.length() + 1);
        }
        Texts.scriptRefused("thumb;", HonestScales.SYNTAX, 5);
        Texts.scriptRefused("thumb 0;", HonestScales.SYNTAX, 7);
        Texts.scriptRefused("thumb 0 0 0;", HonestScales.SYNTAX, 10);
        for (String verb : new String[] {"days", "visit", "repair", "thumb", "complain", "open"}) {
            for (String other : similar(verb)) {
                Texts.scriptRefused(other + " 1;", HonestScales.SYNTAX, 0);
            }
        }
        for (String other : new String[] {"reopen", "passdays", "settingthumb", "undo", "shop", "bureau", "weights", "day", "o"}) {
            Texts.scriptRefused(other + " 0;", HonestScales.SYNTAX, 0);
        }
    }

    private static void rangesGivenAbove() {
        Sentence.of(Sentence.TERMS, "BASE, RATE, FEE, VALIDITY, PRICE, INSPECTORS, SEED, PORTION, SALES, THUMB and CAUTION have the ranges given above.");
        int[] least = {0, 0, 0, 1, 1, 0, 0};
        int[] greatest = {50, 50, 99, 99, 50, 3, 65536};
        for (int place = 0; place < 7; place++) {
            rangeDue("bureau ", least, greatest, place, ";" + WEIGHTS + SHOP);
        }
        int[] leastOfShop = {0, 0, 0, 0, 1, 0, 0, 0};
        int[] greatestOfShop = {9999, 1000, 100, 10, 5000, 50, 100, 30};
        for (int place = 4; place < 8; place++) {
            rangeDue(HEAD + WEIGHTS + "shop ", leastOfShop, greatestOfShop, place, ";");
            rangeDue(EIGHT.substring(0, EIGHT.length() - SHOP.length()) + "shop ", leastOfShop, greatestOfShop, place, ";");
        }
        Texts.scriptTaken("thumb 0 0;thumb 0 100;", 2);
        Texts.scriptRefused("thumb 0 101;", HonestScales.RANGE, 8);
    }

    /** Takes the least and the greatest number at a place of a row, and refuses the ones just beyond. */
    private static void rangeDue(String before, int[] least, int[] greatest, int place, String after) {
        StringBuilder start = new StringBuilder(before);
        StringBuilder rest = new StringBuilder();
        for (int i = 0; i < least.length; i++) {
            if (i < place) {
                start.append(greatest[i]).append(' ');
            } else if (i > place) {
                rest.append(' ').append(least[i]);
            }
        }
        Texts.taken(start.toString() + least[place] + rest + after);
        Texts.taken(start.toString() + greatest[place] + rest + after);
        Texts.refused(start.toString() + (greatest[place] + 1) + rest + after, HonestScales.RANGE, start.length());
        if (least[place] > 0) {
            Texts.refused(start.toString() + (least[place] - 1) + rest + after, HonestScales.RANGE, start.length());
        }
        // There are no numbers below 0: a hyphen belongs to no token.
        Texts.refused(start + "-1" + rest + after, HonestScales.SYNTAX, start.length());
    }

    private static void rangesGivenHere() {
        Sentence.of(Sentence.TERMS, "GRAMS is 1 to 5000, PURSE 0 to 9999, OFFSET 0 to 1000 (the offset is this number minus 500), SLOPE 0 to 100 (the slope is this number minus 50), DRIFT 0 to 10 (the drift is this number minus 5), COUNT 1 to 100, and SHOPNUMBER the number of a shop.");
        int[] leastOfShop = {0, 0, 0, 0, 1, 0, 0, 0};
        int[] greatestOfShop = {9999, 1000, 100, 10, 5000, 50, 100, 30};
        for (int place = 0; place < 4; place++) {
            rangeDue(HEAD + WEIGHTS + "shop ", leastOfShop, greatestOfShop, place, ";");
        }
        String weights = HEAD + "weights ";
        for (String earlier : new String[] {"", "10 ", "10 20 ", "10 20 30 ", "10 20 30 40 ", "10 20 30 40 50 "}) {
            rangeDue(weights + earlier, new int[] {1}, new int[] {5000}, 0, ";" + SHOP);
        }
        HonestScales x = Texts.taken(HEAD + WEIGHTS + "shop 9999 0 0 0 1 0 0 0;shop 0 1000 100 10 1 0 0 0;");
        Check.due("numbers", x.purse(0) + "/" + x.offset(0) + "/" + x.slope(0) + "/" + x.drift(0), "9999/-500/-50/-5");
        Check.due("numbers", x.purse(1) + "/" + x.offset(1) + "/" + x.slope(1) + "/" + x.drift(1), "0/500/50/5");
        Texts.scriptTaken("days 1;days 100;", 2);
        Texts.scriptRefused("days 0;", HonestScales.RANGE, 5);
        Texts.scriptRefused("days 101;", HonestScales.RANGE, 5);
        for (int shops = 1; shops <= 8; shops++) {
            HonestScales y = Make.quiet(Make.plain(shops));
            Check.due("the last of " + shops, Check.script(y, "complain 0;complain " + (shops - 1) + ";"), 2);
            Check.feed(y, "complain " + shops + ";");
            Check.dueThrow("one beyond " + shops, Check.ARGUMENT, y::runScript);
            Check.due("its error", y.errorCode() + "/" + y.errorPosition(), HonestScales.RANGE + "/9");
        }
    }

    private static void firstTokenWithAnError() {
        Sentence.of(Sentence.TERMS, "The parser reads the text from left to right and stops at the first token with an error.");
        Texts.refused("bureau 51 51 ? ;", HonestScales.RANGE, 7);
        Texts.refused("bureau ? 51", HonestScales.SYNTAX, 7);
        Texts.refused(HEAD + "weights 5 5 0 ?", HonestScales.TWICE, 31);
        Texts.refused(HEAD + "weights 5 0 5 ?", HonestScales.RANGE, 31);
        Texts.refused(HEAD + "weights 1 2 3 4 5 6 7 7 0 ?", HonestScales.LIMIT, 41);
        Texts.refused(EIGHT + "shop 10000 shop ?", HonestScales.LIMIT, EIGHT.length());
        Texts.scriptRefused("complain 3;complain 4;?", HonestScales.RANGE, 9);
        Texts.scriptRefused("thumb 3 101", HonestScales.RANGE, 6);
        Texts.scriptRefused(TWENTY + "complain 3?", HonestScales.LIMIT, TWENTY.length());
    }

    private static void positionOfAToken() {
        Sentence.of(Sentence.TERMS, "The error position is the index of the first byte of that token.");
        Texts.refused("bureaux", HonestScales.SYNTAX, 0);
        Texts.refused("   bureaux", HonestScales.SYNTAX, 3);
        Texts.refused("bureau   00051   0", HonestScales.RANGE, 9);
        Texts.refused("bureau 0   weights", HonestScales.SYNTAX, 11);
        Texts.refused(HEAD + "weights 5   005;", HonestScales.TWICE, 33);
        Texts.refused(EIGHT + "   shop", HonestScales.LIMIT, EIGHT.length() + 3);
        Texts.scriptRefused(" ".repeat(499) + "?", HonestScales.SYNTAX, 499);
        Texts.scriptRefused(" ".repeat(491) + "complains", HonestScales.SYNTAX, 491);
    }

    /** Cuts a setup and a script behind each of their tokens. */
    private static void positionOfTheEnd() {
        Sentence.of(Sentence.TERMS, "If the text ends too early, the position is the length of the text.");
        Texts.refused("", HonestScales.SYNTAX, 0);
        Texts.refused("     ", HonestScales.SYNTAX, 5);
        Texts.refused(" ".repeat(500), HonestScales.SYNTAX, 500);
        Texts.refused("bureau" + " ".repeat(494), HonestScales.SYNTAX, 500);
        Texts.scriptRefused("complain" + " ".repeat(492), HonestScales.SYNTAX, 500);
        Texts.scriptRefused(" ".repeat(490) + "complain 0", HonestScales.SYNTAX, 500);
        String text = "";
        for (String token : "bureau 0 0 1 1 1 0 0 ; weights 1 2 ; shop 0 500 50 5 1 0 0 0 ;".split(" ")) {
            Texts.refused(text, HonestScales.SYNTAX, text.length());
            Texts.refused(text + "  ", HonestScales.SYNTAX, text.length() + 2);
            text += text.isEmpty() ? token : " " + token;
        }
        Texts.taken(text);
        for (String script : new String[] {"days", "days 1", "visit", "visit 1", "repair", "repair 1", "thumb", "thumb 1", "thumb 1 1", "complain", "complain 1", "open", "open 1"}) {
            Texts.scriptRefused(script, HonestScales.SYNTAX, script.length());
            Texts.scriptRefused(script + "  ", HonestScales.SYNTAX, script.length() + 2);
        }
    }

    private static void smallestCode() {
        Sentence.of(Sentence.TERMS, "If several errors apply to one token, the one with the smallest code is reported.");
        String six = HEAD + "weights 1 2 3 4 5 6 ";
        Texts.refused(six + "0;", HonestScales.RANGE, six.length());
        Texts.refused(six + "5001;", HonestScales.RANGE, six.length());
        Texts.refused(six + "1;", HonestScales.TWICE, six.length());
        Texts.refused(six + "6;", HonestScales.TWICE, six.length());
        Texts.refused(six + "shop;", HonestScales.SYNTAX, six.length());
        Texts.refused(EIGHT + "bureau", HonestScales.SYNTAX, EIGHT.length());
        Texts.refused(EIGHT + "7", HonestScales.SYNTAX, EIGHT.length());
        Texts.scriptRefused(TWENTY + "shop 0;", HonestScales.SYNTAX, TWENTY.length());
        Texts.scriptRefused(TWENTY + "7", HonestScales.SYNTAX, TWENTY.length());
    }

    private static void syntaxErrors() {
        Sentence.of(Sentence.TERMS, "- SYNTAX: a token that the grammar does not allow at this place, a byte that belongs to no token, or the end of the text at a place where it must not end.");
        String[] tokens = "bureau 0 0 1 1 1 0 0 ; weights 1 2 ; shop 0 500 50 5 1 0 0 0 ; ".split(" ", -1);
        String[] kinds = "bureau n n n n n n n ; weights n n/; n/; shop n n n n n n n n ; shop/end".split(" ");
        String text = "";
        for (int i = 0; i < kinds.length; i++) {
            String allowed = "/" + kinds[i] + "/";
            for (String other : new String[] {"bureau", "weights", "shop", "days", ";", "?"}) {
                if (!allowed.contains("/" + other + "/")) {
                    Texts.refused(text + other, HonestScales.SYNTAX, text.length());
                }
            }
            if (!allowed.contains("/n/")) {
                Texts.refused(text + "1", HonestScales.SYNTAX, text.length());
            }
            if (!allowed.contains("/end/")) {
                Texts.refused(text, HonestScales.SYNTAX, text.length());
            }
            text += tokens[i] + " ";
        }
        Texts.scriptRefused("?", HonestScales.SYNTAX, 0);
        Texts.scriptRefused("complain ?", HonestScales.SYNTAX, 9);
        Texts.scriptRefused("complain ;", HonestScales.SYNTAX, 9);
        Texts.scriptRefused("complain 0 0", HonestScales.SYNTAX, 11);
        Texts.scriptRefused("complain 0", HonestScales.SYNTAX, 10);
    }

    private static void rangeErrors() {
        Sentence.of(Sentence.TERMS, "- RANGE: a number outside its range.");
        Texts.scriptRefused("days 0", HonestScales.RANGE, 5);
        Texts.scriptRefused("days 101", HonestScales.RANGE, 5);
        Texts.scriptRefused("open 3", HonestScales.RANGE, 5);
        Texts.refused("bureau 51", HonestScales.RANGE, 7);
        Texts.refused("bureau 0 0 0 0", HonestScales.RANGE, 13);
        Texts.refused(HEAD + "weights 0", HonestScales.RANGE, 29);
        Texts.refused(HEAD + "weights 1 5001", HonestScales.RANGE, 31);
    }

    private static void weightsNamedTwice() {
        Sentence.of(Sentence.TERMS, "- TWICE: a test weight that was named already.");
        String text = HEAD + "weights 5000 1 ";
        Texts.refused(text + "5000;", HonestScales.TWICE, text.length());
        Texts.refused(text + "1", HonestScales.TWICE, text.length());
        Texts.refused(text + "0001", HonestScales.TWICE, text.length());
        Texts.refused(text + "2 3 4 4", HonestScales.TWICE, text.length() + 6);
        Texts.taken(text + "11 500 50 5;" + SHOP);
        // The weights of an earlier text are not those of this one, even if that one had an error.
        HonestScales x = new HonestScales();
        Check.feed(x, HEAD + "weights 7 8 9;");
        Check.dueThrow("a setup without shops", Check.ARGUMENT, x::loadSetup);
        Check.feed(x, HEAD + "weights 100 7 8;" + SHOP);
        Check.due("loadSetup", x.loadSetup(), 1);
    }

    private static void limits() {
        Sentence.of(Sentence.TERMS, "- LIMIT: a 7th test weight, if it is a number; the word \"shop\" of a 9th shop; the first word of a 21st command.");
        String six = HEAD + "weights 1 2 3 4 5 6 ";
        Texts.taken(six + ";" + SHOP);
        Texts.refused(six + "7;", HonestScales.LIMIT, six.length());
        Texts.refused(six + "seven", HonestScales.SYNTAX, six.length());
        Texts.refused(six + "?", HonestScales.SYNTAX, six.length());
        Texts.refused(six, HonestScales.SYNTAX, six.length());
        Texts.taken(EIGHT);
        Texts.refused(EIGHT + "shop", HonestScales.LIMIT, EIGHT.length());
        Texts.refused(EIGHT + SHOP, HonestScales.LIMIT, EIGHT.length());
        Texts.refused(EIGHT + "shopping", HonestScales.SYNTAX, EIGHT.length());
        Texts.refused(EIGHT + "?", HonestScales.SYNTAX, EIGHT.length());
        Texts.refused(EIGHT + ";", HonestScales.SYNTAX, EIGHT.length());
        Texts.scriptTaken(TWENTY, 20);
        Texts.scriptTaken(TWENTY + " ", 20);
        for (String verb : new String[] {"days", "visit", "repair", "thumb", "complain", "open"}) {
            Texts.scriptRefused(TWENTY + verb, HonestScales.LIMIT, TWENTY.length());
            Texts.scriptRefused(TWENTY + verb + " 1 ?", HonestScales.LIMIT, TWENTY.length());
        }
        Texts.scriptRefused(TWENTY + "?", HonestScales.SYNTAX, TWENTY.length());
        Texts.scriptRefused(TWENTY + ";", HonestScales.SYNTAX, TWENTY.length());
    }

    private static void constants() {
        Sentence.of(Sentence.TERMS, "The result of methods that have nothing to return.");
        Check.due("NONE", new HonestScales().errorPosition(), -1);
        Sentence.of(Sentence.TERMS, "Error code: a token that is not allowed at its place.");
        Texts.scriptRefused("7", 1, 0);
        Sentence.of(Sentence.TERMS, "Error code: a number out of range.");
        Texts.scriptRefused("days 101;", 2, 5);
        Sentence.of(Sentence.TERMS, "Error code: a test weight that was named twice.");
        Texts.refused(HEAD + "weights 9 9;", 3, 31);
        Sentence.of(Sentence.TERMS, "Error code: too many weights, shops or commands.");
        Texts.refused(HEAD + "weights 1 2 3 4 5 6 7;", 4, 41);
        Texts.refused(EIGHT + "shop", 4, EIGHT.length());
        Texts.scriptRefused(TWENTY + "days", 4, TWENTY.length());
    }

    private static void scriptsAreExecuted() {
        Sentence.of(Sentence.TERMS, "A script without an error is executed command by command.");
        HonestScales x = Texts.scriptTaken("thumb 0 1;thumb 0 2;complain 1;days 1;visit 1;complain 1;complain 1;", 7);
        Check.due("each one, in its order", x.thumb(0) + "/" + x.day() + "/" + x.latestVisit(1) + "/" + x.complaints(1), "2/1/1/2");
        HonestScales y = new HonestScales();
        Check.feed(y, "thumb 0 1;complain 1;complain 3;");
        Check.dueThrow("with an error in its last command", Check.ARGUMENT, y::runScript);
        Check.due("nothing is executed", y.thumb(0) + "/" + y.complaints(1), "20/0");
        Check.due("the shop in the error's way", Check.script(y, "complain 2;"), 1);
    }

    private static void commandsAreMethods() {
        Sentence.of(Sentence.TERMS, "The commands work like the methods passDays, visit, repair, setThumb, complain and reopen.");
        sameDue("days 100;", x -> x.passDays(100));
        sameDue("days 1;", x -> x.passDays(1));
        sameDue("visit 0;", x -> x.visit(0));
        sameDue("visit 2;", x -> x.visit(2));
        sameDue("repair 0;", x -> x.repair(0));
        sameDue("thumb 2 0;", x -> x.setThumb(2, 0));
        sameDue("thumb 1 100;", x -> x.setThumb(1, 100));
        sameDue("complain 2;", x -> x.complain(2));
        sameDue("open 1;", x -> x.reopen(1));
    }

    private interface Change {
        Object make(HonestScales x);
    }

    /** Both on an object with days behind it, where shop 1 is closed. */
    private static void sameDue(String script, Change change) {
        HonestScales x = withClosedShop();
        HonestScales y = withClosedShop();
        Check.due("executed", Check.script(x, script), 1);
        change.make(y);
        Check.due("the state after " + script, Check.state(x), Check.state(y));
        Check.due("undo after " + script, x.undo(), y.undo());
        Check.due("the state before " + script, Check.state(x), Check.state(y));
    }

    private static HonestScales withClosedShop() {
        HonestScales x = new HonestScales();
        x.setInspectors(0);
        Check.script(x, "days 20;visit 1;days 20;visit 1;days 20;visit 1;");
        x.setInspectors(2);
        return x;
    }

    private static void executionEndsBefore() {
        Sentence.of(Sentence.TERMS, "Execution ends before the first command for which that method would throw an exception.");
        endsDue("visit 1;", "a visit of a closed shop");
        endsDue("complain 1;", "a complaint about a closed shop");
        endsDue("repair 1;", "a repair of a closed shop");
        endsDue("repair 2;", "a repair without 10 coins");
        endsDue("open 0;", "the opening of an open shop");
        HonestScales x = poor();
        Check.due("opened by the script itself", Check.script(x, "open 1;complain 1;open 1;complain 1;"), 2);
        Check.due("complaints", x.complaints(1), 1);
        HonestScales y = poor();
        Check.due("closed by the script itself", Check.script(y, "days 2;visit 0;days 2;visit 0;days 2;visit 0;visit 0;days 9;"), 6);
        Check.due("day", y.day(), 12);
    }

    /** Three shops: 10 coins, closed, and 9 coins. */
    private static HonestScales poor() {
        HonestScales x = Make.bureau("0 0 0 1 1 0 0", "1", "10 500 50 5 1 0 0 0", "99 500 50 5 1 0 0 0", "9 500 50 5 1 0 0 0");
        Make.close(x, 1);
        return x;
    }

    private static void endsDue(String command, String what) {
        for (int before = 0; before < 3; before++) {
            HonestScales x = poor();
            String late = "thumb 0 99;days 1;complain 0;repair 0;";
            Check.due("executed before " + what, Check.script(x, "complain 0;".repeat(before) + command + late), before);
            Check.due("what stands after " + what, x.complaints(0) + "/" + x.thumb(0) + "/" + x.day() + "/" + x.purse(0), before + "/0/6/10");
            Check.due("no error is reported for " + what, x.errorCode() + "/" + x.errorPosition(), "0/-1");
        }
    }

    private TermsOfTexts() {
    }
}
