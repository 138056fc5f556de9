/** Promises 1 and 6: a new object, and setups with their errors. */
public final class SetupTest {
    private static final String HEAD = "bureau 0 0 10 10 1 0 0;";
    private static final String WEIGHTS = " weights 100;";
    private static final String SHOP = " shop 1 500 50 5 100 1 0 0;";
    private static final String FIRST = "bureau 5 10 4 10 20 1 7; weights 100 500 2000; shop 100 500 50 7 250 10 20 3; "
        + "shop 50 530 50 5 1000 4 0 0; shop 200 480 60 4 100 30 0 5;";

    public static void main(String[] args) {
        newObject();
        newObjectIsTheSetup();
        loadSetupReplacesTheState();
        failedSetupChangesOnlyTheBufferAndTheError();
        earlierChangesAndSnapshotsStay();
        everyNumberHasItsRange();
        everyTokenHasItsPlace();
        limits();
        twice();
        spacesAndNumbers();
        Check.end();
    }

    private static void newObject() {
        HonestScales x = new HonestScales();
        Check.due("shopCount", x.shopCount(), 3);
        Check.due("weights", x.testWeight(0) + "/" + x.testWeight(1) + "/" + x.testWeight(2), "100/500/2000");
        Check.due("bureau", x.bound(1) + "/" + x.bound(1000) + "/" + x.fee() + "/" + x.inspectors() + "/" + x.seed(), "5/15/4/1/7");
        Check.due("shop 0", x.purse(0) + "/" + x.offset(0) + "/" + x.slope(0) + "/" + x.drift(0) + "/" + x.thumb(0), "100/0/0/2/20");
        Check.due("shop 1", x.purse(1) + "/" + x.offset(1) + "/" + x.slope(1) + "/" + x.drift(1) + "/" + x.thumb(1), "50/30/0/0/0");
        Check.due("shop 2", x.purse(2) + "/" + x.offset(2) + "/" + x.slope(2) + "/" + x.drift(2) + "/" + x.thumb(2), "200/-20/10/-1/0");
        Check.due("day", x.day(), 0);
        Check.due("the input buffer is empty", x.append(0, 0, 0, 0, 0), 20);
        Check.due("the output text is empty", x.outputByte(0), HonestScales.NONE);
        Check.dueThrow("undo", Check.ELEMENT, x::undo);
        Check.dueThrow("restoreSnapshot(0)", Check.ELEMENT, () -> x.restoreSnapshot(0));
        Check.dueThrow("restoreSnapshot(1)", Check.ELEMENT, () -> x.restoreSnapshot(1));
    }

    private static void newObjectIsTheSetup() {
        HonestScales x = new HonestScales();
        HonestScales y = Check.setup(FIRST);
        for (int days = 0; days < 5; days++) {
            Check.due("a new object after " + x.day() + " days", Check.state(x), Check.state(y));
            x.passDays(7);
            y.passDays(7);
        }
    }

    private static void loadSetupReplacesTheState() {
        HonestScales x = new HonestScales();
        x.setInspectors(0);
        Check.due("a past to forget", Check.script(x, "days 30;visit 0;visit 1;days 30;visit 0;complain 0;complain 1;"), 7);
        // A question about the days to come must leave nothing behind in the next setup either.
        x.purseAfter(0, 20);
        Check.feed(x, "bureau 50 49 99 98 50 3 65536; weights 5000 1 4999 2; shop 9999 1000 100 10 5000 50 100 30; shop 0 0 0 0 1 0 0 0;");
        Check.due("loadSetup", x.loadSetup(), 2);
        Check.due("the buffer is empty", x.append(0, 0, 0, 0, 0), 20);
        Check.due("day", x.day(), 0);
        Check.due("bureau", x.fee() + "/" + x.inspectors() + "/" + x.seed() + "/" + x.bureauCoins() + "/" + x.visits(), "99/3/65536/0/0");
        Check.due("bounds", x.bound(1) + "/" + x.bound(5000), "50/295");
        Check.due("weights", x.weightCount() + "/" + x.testWeight(0) + "/" + x.testWeight(3), "4/5000/2");
        Check.due("shop 0", x.purse(0) + "/" + x.offset(0) + "/" + x.slope(0) + "/" + x.drift(0) + "/" + x.thumb(0), "9999/500/50/5/100");
        Check.due("shop 1", x.purse(1) + "/" + x.offset(1) + "/" + x.slope(1) + "/" + x.drift(1) + "/" + x.thumb(1), "0/-500/-50/-5/0");
        for (int shop = 0; shop < 2; shop++) {
            Check.due("never visited", x.latestVisit(shop), HonestScales.NONE);
            Check.due("counts", x.complaints(shop) + x.failures(shop) + x.finesOf(shop) + x.gainsOf(shop) + x.stampedUntil(shop), 0);
            Check.due("open", x.isOpen(shop), true);
        }
        x.passDays(1);
        // 50 sales of 500 + 250 + 100 false grams at 50 coins per 1000 grams.
        Check.due("gain", x.gainsOf(0), 2125);
        Check.due("validity", x.stampedUntil(0), 99);
    }

    private static void failedSetupChangesOnlyTheBufferAndTheError() {
        HonestScales x = new HonestScales();
        x.passDays(5);
        String before = Check.state(x);
        int length = x.writeShop(1);
        String output = Check.output(x, length);
        Check.feed(x, "bureau 1 1 1 1 1 1 1; weights 7; shop 1 500 50 5 100 1 0 0; shop");
        Check.dueThrow("loadSetup", Check.ARGUMENT, x::loadSetup);
        Check.due("the state", Check.state(x), before);
        Check.due("the output", Check.output(x, length), output);
        Check.due("the buffer is empty", x.append(0, 0, 0, 0, 0), 20);
        Check.due("changes that can be undone", x.undo(), 0);
        Check.due("day", x.day(), 0);
    }

    private static void earlierChangesAndSnapshotsStay() {
        HonestScales x = new HonestScales();
        x.passDays(3);
        String atThree = Check.state(x);
        x.saveSnapshot(1);
        Check.feed(x, HEAD + WEIGHTS + SHOP);
        Check.due("loadSetup", x.loadSetup(), 1);
        Check.due("undo", x.undo(), 1);
        Check.due("the state before the setup", Check.state(x), atThree);
        Check.due("undo", x.undo(), 0);
        Check.feed(x, HEAD + WEIGHTS + SHOP);
        x.loadSetup();
        Check.due("restoreSnapshot", x.restoreSnapshot(1), 3);
        Check.due("the state of the snapshot", Check.state(x), atThree);
    }

    private static void everyNumberHasItsRange() {
        String[] low = {"0", "0", "0", "1", "1", "0", "0"};
        String[] high = {"50", "50", "99", "99", "50", "3", "65536"};
        numbersInPlaces("bureau", low, high, "", "; weights 1;" + SHOP);
        numbersInPlaces("weights", new String[] {"1"}, new String[] {"5000"}, HEAD + " ", ";" + SHOP);
        String[] lowShop = {"0", "0", "0", "0", "1", "0", "0", "0"};
        String[] highShop = {"9999", "1000", "100", "10", "5000", "50", "100", "30"};
        numbersInPlaces("shop", lowShop, highShop, HEAD + WEIGHTS + " ", ";");
        numbersInPlaces("shop", lowShop, highShop, HEAD + WEIGHTS + SHOP + SHOP + " ", ";" + SHOP);
    }

    private static void numbersInPlaces(String word, String[] low, String[] high, String before, String after) {
        for (int place = 0; place < low.length; place++) {
            for (String number : new String[] {low[place], high[place]}) {
                String[] parts = row(high, place, number);
                Texts.taken(before + word + parts[0] + parts[1] + after);
            }
            for (String number : outside(low[place], high[place])) {
                String[] parts = row(low, place, number);
                Texts.refused(before + word + parts[0] + parts[1] + after, HonestScales.RANGE, (before + word + parts[0]).length());
            }
        }
    }

    private static String[] outside(String low, String high) {
        String above = "" + (Integer.parseInt(high) + 1);
        if (low.equals("0")) {
            return new String[] {above, "00" + above, "4294967296", "99999999999999999999999"};
        }
        return new String[] {above, "0", "000", "4294967297"};
    }

    /** The row up to one place, and the number there with the rest. */
    private static String[] row(String[] numbers, int place, String number) {
        StringBuilder before = new StringBuilder(" ");
        StringBuilder rest = new StringBuilder(number);
        for (int i = 0; i < numbers.length; i++) {
            if (i < place) {
                before.append(numbers[i]).append(' ');
            } else if (i > place) {
                rest.append(' ').append(numbers[i]);
            }
        }
        return new String[] {before.toString(), rest.toString()};
    }

    /** Puts each kind of token, and the end, at each place of a setup where it must not stand. */
    private static void everyTokenHasItsPlace() {
        String[] tokens = (HEAD + " weights 100 200;" + SHOP + SHOP).replace(";", " ; ").trim().split(" +");
        String shop = " n n n n n n n n ; shop/end";
        String[] allowed = ("bureau n n n n n n n ; weights n n/; n/; shop" + shop + shop).split(" ");
        String[] words = {"bureau", "weights", "shop", "shops", "shopz", "shopa", "sho", "hop", "shox", "days", "z"};
        String[] strange = {"-1", "\u00e4", "\0", ",", "\n", "\t", "B", "`", "{", "/", ":", "\u00e2"};
        String text = "";
        for (int i = 0; i < allowed.length; i++) {
            String here = "/" + allowed[i] + "/";
            for (String word : words) {
                misplaced(text, word, here.contains("/" + word + "/"));
            }
            for (String token : strange) {
                misplaced(text, token, false);
            }
            misplaced(text, "5", here.contains("/n/"));
            misplaced(text, ";", here.contains("/;/"));
            misplaced(text, "", here.contains("/end/"));
            text = i < tokens.length ? text + tokens[i] + " " : text;
        }
        Texts.taken(text);
    }

    private static void misplaced(String text, String token, boolean allowed) {
        if (!allowed) {
            Texts.refused(text + token, HonestScales.SYNTAX, text.length());
        }
    }

    private static void limits() {
        String six = HEAD + "weights 1 2 3 4 5 6";
        Texts.taken(six + ";" + SHOP);
        Texts.refused(six + " 7;" + SHOP, HonestScales.LIMIT, six.length() + 1);
        Texts.refused(six + " 7", HonestScales.LIMIT, six.length() + 1);
        Texts.refused(six + " 6;", HonestScales.TWICE, six.length() + 1);
        Texts.refused(six + " 0;", HonestScales.RANGE, six.length() + 1);
        Texts.refused(six + " 5001;", HonestScales.RANGE, six.length() + 1);
        Texts.refused(six + " shop", HonestScales.SYNTAX, six.length() + 1);
        Texts.refused(six + " ", HonestScales.SYNTAX, six.length() + 1);
        String eight = HEAD + WEIGHTS + SHOP + SHOP + SHOP + SHOP + SHOP + SHOP + SHOP + SHOP;
        Texts.taken(eight);
        Texts.taken(eight + "  ");
        Texts.refused(eight + " shop", HonestScales.LIMIT, eight.length() + 1);
        Texts.refused(eight + SHOP, HonestScales.LIMIT, eight.length() + 1);
        Texts.refused(eight + "shop99999;", HonestScales.LIMIT, eight.length());
        Texts.refused(eight + "shops 1", HonestScales.SYNTAX, eight.length());
        Texts.refused(eight + ";", HonestScales.SYNTAX, eight.length());
        Texts.refused(eight + "1", HonestScales.SYNTAX, eight.length());
        Texts.refused(eight + "!", HonestScales.SYNTAX, eight.length());
        HonestScales x = new HonestScales();
        Check.feed(x, eight);
        Check.due("loadSetup", x.loadSetup(), 8);
        Check.due("shopCount", x.shopCount(), 8);
    }

    private static void twice() {
        String text = HEAD + "weights 100 200";
        Texts.refused(text + " 100;", HonestScales.TWICE, text.length() + 1);
        Texts.refused(text + " 0200;", HonestScales.TWICE, text.length() + 1);
        Texts.refused(text + " 200", HonestScales.TWICE, text.length() + 1);
        Texts.refused(text + " 10 0", HonestScales.RANGE, text.length() + 4);
        Texts.taken(text + " 20 2000 2;" + SHOP);
    }

    private static void spacesAndNumbers() {
        Texts.taken("bureau0 0 10 10 1 0 0;weights100;shop1 500 50 5 100 1 0 0;");
        Texts.taken("   bureau  0   0 10 10 1 0 0  ;  weights   100  ;  shop 1 500 50 5 100 1 0 0  ;   ");
        Texts.taken("bureau 0000000000000000000000000000050 000000 010 0010 1 0 0;weights 000005000;" + SHOP);
        Texts.refused("bu reau", HonestScales.SYNTAX, 0);
        Texts.refused("bureauweights", HonestScales.SYNTAX, 0);
        Texts.refused(" Bureau", HonestScales.SYNTAX, 1);
        Texts.refused("bureau 1x", HonestScales.SYNTAX, 8);
        Texts.refused("bureau 51x", HonestScales.RANGE, 7);
        Texts.refused("bureau?", HonestScales.SYNTAX, 6);
        Texts.refused("", HonestScales.SYNTAX, 0);
        Texts.refused("   ", HonestScales.SYNTAX, 3);
    }
}
