import java.util.NoSuchElementException;

/** A bureau that inspects the scales of shops; ../shared/DOC.md tells what each call answers. */
public final class HonestScales {
    public static final int NONE = -1;
    public static final int SYNTAX = 1;
    public static final int RANGE = 2;
    public static final int TWICE = 3;
    public static final int LIMIT = 4;

    private static final String FIRST_SETUP = "bureau 5 10 4 10 20 1 7; weights 100 500 2000; shop 100 500 50 7 250 10 20 3; shop 50 530 50 5 1000 4 0 0; shop 200 480 60 4 100 30 0 5;";

    private static final int INPUT_LIMIT = 500;
    private static final int WEIGHT_LIMIT = 6;
    private static final int SHOP_LIMIT = 8;
    private static final int COMMAND_LIMIT = 20;
    private static final int UNDO_LIMIT = 8;
    private static final int SLOT_COUNT = 2;

    private static final int HEAVIEST = 5000;
    private static final int OFFSET_LIMIT = 500;
    private static final int REPAIR_PRICE = 10;
    private static final int FAILURES_TO_CLOSE = 3;
    private static final int THUMB_LIMIT = 100;
    private static final int THUMB_STEP = 5;
    private static final int FEE_LIMIT = 99;
    private static final int INSPECTOR_LIMIT = 3;
    private static final int DAYS_AT_ONCE = 100;
    private static final int DAYS_FORESEEN = 200;
    private static final int DRIFT_DAYS_FORESEEN = 1000;
    private static final int SEED_MODULUS = 65537;

    // Pairs of the lowest and the highest number: BASE RATE FEE VALIDITY PRICE INSPECTORS SEED.
    private static final int[] BUREAU_RANGES = {0, 50, 0, 50, 0, 99, 1, 99, 1, 50, 0, 3, 0, 65536};
    // The same for PURSE OFFSET SLOPE DRIFT PORTION SALES THUMB CAUTION.
    private static final int[] SHOP_RANGES = {0, 9999, 0, 1000, 0, 100, 0, 10, 1, 5000, 0, 50, 0, 100, 0, 30};
    private static final int ROW_LENGTH = 8;

    private static final int END_TOKEN = 0;
    private static final int WORD_TOKEN = 1;
    private static final int NUMBER_TOKEN = 2;
    private static final int SEMICOLON_TOKEN = 3;
    private static final int STRANGE_TOKEN = 4;
    // Above every range of the grammar; a number that has passed it need not be known exactly.
    private static final int LARGE = 1000000;

    private static final int DAYS_VERB = 0;
    private static final int VISIT_VERB = 1;
    private static final int REPAIR_VERB = 2;
    private static final int THUMB_VERB = 3;
    private static final int COMPLAIN_VERB = 4;
    private static final int OPEN_VERB = 5;

    private final Parser parser = new Parser();
    private final Input input = parser.input;
    private final Bureau now;
    // For setups that may turn out wrong, and for days that are only foreseen.
    private final Bureau spare = new Bureau();
    private final History history = new History();
    private final Bureau[] snapshots = new Bureau[SLOT_COUNT];
    private final StringBuilder output = new StringBuilder();

    public HonestScales() {
        now = parser.readFirstSetup();
    }

    // ---- input

    public int append(int a, int b, int c, int d, int e) throws IllegalStateException {
        if (input.length + 20 > INPUT_LIMIT) {
            throw new IllegalStateException("the input buffer is full");
        }
        input.putFour(a);
        input.putFour(b);
        input.putFour(c);
        input.putFour(d);
        input.putFour(e);
        return input.length;
    }

    public int truncate(int length) throws IllegalArgumentException {
        requireRange(length, 0, input.length);
        input.length = length;
        return length;
    }

    public int errorCode() {
        return parser.code;
    }

    public int errorPosition() {
        return parser.position;
    }

    // ---- changes

    public int loadSetup() throws IllegalArgumentException {
        boolean good = parser.readSetup(spare);
        input.length = 0;
        requireGoodText(good);
        history.remember(now);
        now.copyFrom(spare);
        return now.shopCount;
    }

    public int runScript() throws IllegalArgumentException {
        boolean good = parser.readScript(now.shopCount);
        input.length = 0;
        requireGoodText(good);
        history.remember(now);
        Script script = parser.script;
        int executed = 0;
        while (executed < script.count && now.perform(script, executed)) {
            executed++;
        }
        return executed;
    }

    public int passDays(int count) throws IllegalArgumentException {
        requireRange(count, 1, DAYS_AT_ONCE);
        history.remember(now);
        return now.passMany(count);
    }

    public int visit(int shop) throws IndexOutOfBoundsException, IllegalStateException {
        Shop visited = existingShop(shop);
        requireState(visited.open);
        history.remember(now);
        return now.inspect(visited);
    }

    public int repair(int shop) throws IndexOutOfBoundsException, IllegalStateException {
        Shop repaired = existingShop(shop);
        requireState(repaired.canPayRepair());
        history.remember(now);
        now.repairScale(repaired);
        return repaired.purse;
    }

    public int setThumb(int shop, int grams) throws IndexOutOfBoundsException, IllegalArgumentException {
        Shop changed = existingShop(shop);
        requireRange(grams, 0, THUMB_LIMIT);
        history.remember(now);
        int previous = changed.thumb;
        changed.thumb = grams;
        return previous;
    }

    public int complain(int shop) throws IndexOutOfBoundsException, IllegalStateException {
        Shop accused = existingShop(shop);
        requireState(accused.open);
        history.remember(now);
        accused.complaints++;
        return accused.complaints;
    }

    public int reopen(int shop) throws IndexOutOfBoundsException, IllegalStateException {
        Shop closed = existingShop(shop);
        requireState(!closed.open);
        history.remember(now);
        closed.openAgain();
        return now.countOpen();
    }

    public int setInspectors(int count) throws IllegalArgumentException {
        requireRange(count, 0, INSPECTOR_LIMIT);
        history.remember(now);
        int previous = now.inspectors;
        now.inspectors = count;
        return previous;
    }

    public int setFee(int coins) throws IllegalArgumentException {
        requireRange(coins, 0, FEE_LIMIT);
        history.remember(now);
        int previous = now.fee;
        now.fee = coins;
        return previous;
    }

    public int undo() throws NoSuchElementException {
        if (!history.takeBack(now)) {
            throw new NoSuchElementException("no change can be undone");
        }
        return history.count;
    }

    public void saveSnapshot(int slot) throws IllegalArgumentException {
        requireRange(slot, 0, SLOT_COUNT - 1);
        if (snapshots[slot] == null) {
            snapshots[slot] = new Bureau();
        }
        snapshots[slot].copyFrom(now);
    }

    public int restoreSnapshot(int slot) throws IllegalArgumentException, NoSuchElementException {
        requireRange(slot, 0, SLOT_COUNT - 1);
        Bureau saved = snapshots[slot];
        if (saved == null) {
            throw new NoSuchElementException("the slot is empty");
        }
        history.remember(now);
        now.copyFrom(saved);
        return now.day;
    }

    // ---- bureau

    public int day() {
        return now.day;
    }

    public int weightCount() {
        return now.weightCount;
    }

    public int testWeight(int weight) throws IndexOutOfBoundsException {
        if (weight < 0 || weight >= now.weightCount) {
            throw new IndexOutOfBoundsException("no such test weight");
        }
        return now.weights[weight];
    }

    public int bound(int grams) throws IllegalArgumentException {
        requireRange(grams, 1, HEAVIEST);
        return now.boundFor(grams);
    }

    public int fee() {
        return now.fee;
    }

    public int inspectors() {
        return now.inspectors;
    }

    public int seed() {
        return now.seed;
    }

    public int bureauCoins() {
        return now.coins;
    }

    public int visits() {
        return now.visits;
    }

    // ---- scales

    public int offset(int shop) throws IndexOutOfBoundsException {
        return existingShop(shop).offset;
    }

    public int slope(int shop) throws IndexOutOfBoundsException {
        return existingShop(shop).slope;
    }

    public int drift(int shop) throws IndexOutOfBoundsException {
        return existingShop(shop).drift;
    }

    public int reading(int shop, int grams) throws IndexOutOfBoundsException, IllegalArgumentException {
        Shop asked = existingShop(shop);
        requireRange(grams, 1, HEAVIEST);
        return grams + asked.errorFor(grams);
    }

    public int excess(int shop, int grams) throws IndexOutOfBoundsException, IllegalArgumentException {
        Shop asked = existingShop(shop);
        requireRange(grams, 1, HEAVIEST);
        return now.excessFor(asked, grams);
    }

    public int totalExcess(int shop) throws IndexOutOfBoundsException {
        return now.totalFor(existingShop(shop));
    }

    public boolean isTrue(int shop) throws IndexOutOfBoundsException {
        return now.hasTrueScale(existingShop(shop));
    }

    public int worstWeight(int shop) throws IndexOutOfBoundsException {
        return now.worstWeightFor(existingShop(shop));
    }

    public int stampedUntil(int shop) throws IndexOutOfBoundsException {
        return existingShop(shop).stampedUntil;
    }

    public boolean isStamped(int shop) throws IndexOutOfBoundsException {
        return existingShop(shop).isStampedOn(now.day);
    }

    // ---- shops

    public int shopCount() {
        return now.shopCount;
    }

    public int openShops() {
        return now.countOpen();
    }

    public boolean isOpen(int shop) throws IndexOutOfBoundsException {
        return existingShop(shop).open;
    }

    public int purse(int shop) throws IndexOutOfBoundsException {
        return existingShop(shop).purse;
    }

    public int thumb(int shop) throws IndexOutOfBoundsException {
        return existingShop(shop).thumb;
    }

    public int complaints(int shop) throws IndexOutOfBoundsException {
        return existingShop(shop).complaints;
    }

    public int failures(int shop) throws IndexOutOfBoundsException {
        return existingShop(shop).failures;
    }

    public int latestVisit(int shop) throws IndexOutOfBoundsException {
        return existingShop(shop).latestVisit;
    }

    public int finesOf(int shop) throws IndexOutOfBoundsException {
        return existingShop(shop).fines;
    }

    public int gainsOf(int shop) throws IndexOutOfBoundsException {
        return existingShop(shop).gains;
    }

    public int shopAtRank(int rank) {
        for (int shop = 0; shop < now.shopCount; shop++) {
            if (now.rankOf(shop) == rank) {
                return shop;
            }
        }
        return NONE;
    }

    // ---- questions; nothing changes

    public boolean usesThumb(int shop) throws IndexOutOfBoundsException {
        return existingShop(shop).usesThumbOn(now.day + 1);
    }

    public int fineIfVisited(int shop) throws IndexOutOfBoundsException {
        Shop asked = existingShop(shop);
        return now.fineFor(now.totalFor(asked), asked.isStampedOn(now.day));
    }

    public int whyFail(int shop) throws IndexOutOfBoundsException {
        Shop asked = existingShop(shop);
        int scaleReason = now.hasTrueScale(asked) ? 0 : 1;
        int stampReason = asked.isStampedOn(now.day) ? 0 : 2;
        return scaleReason + stampReason;
    }

    public int nextGain(int shop) throws IndexOutOfBoundsException {
        requireShop(shop);
        spare.copyFrom(now);
        spare.beginDay();
        Shop asked = spare.shops[shop];
        return asked.open ? spare.gainFor(asked, asked.falseGramsOn(spare.day)) : 0;
    }

    public int nextVisited() {
        if (now.inspectors == 0) {
            return NONE;
        }
        spare.copyFrom(now);
        spare.beginDay();
        spare.trade();
        return spare.chooseShop();
    }

    public int daysUntilFalse(int shop) throws IndexOutOfBoundsException {
        requireShop(shop);
        spare.copyFrom(now);
        Shop asked = spare.shops[shop];
        for (int days = 0; days <= DRIFT_DAYS_FORESEEN; days++) {
            if (!spare.hasTrueScale(asked)) {
                return days;
            }
            asked.driftOneDay();
        }
        return NONE;
    }

    public int purseAfter(int shop, int days) throws IndexOutOfBoundsException, IllegalArgumentException {
        requireShop(shop);
        requireRange(days, 0, DAYS_FORESEEN);
        spare.copyFrom(now);
        spare.passMany(days);
        return spare.shops[shop].purse;
    }

    public int bestThumb(int shop, int days) throws IndexOutOfBoundsException, IllegalArgumentException {
        requireShop(shop);
        requireRange(days, 1, DAYS_AT_ONCE);
        int best = 0;
        int most = 0;
        for (int grams = 0; grams <= THUMB_LIMIT; grams += THUMB_STEP) {
            spare.copyFrom(now);
            spare.shops[shop].thumb = grams;
            spare.passMany(days);
            int coins = spare.shops[shop].purse;
            if (grams == 0 || coins > most) {
                best = grams;
                most = coins;
            }
        }
        return best;
    }

    public int mostFined() {
        int most = 0;
        for (int shop = 1; shop < now.shopCount; shop++) {
            if (now.shops[shop].fines > now.shops[most].fines) {
                most = shop;
            }
        }
        return most;
    }

    public int ounces(int shop) throws IndexOutOfBoundsException {
        return now.ouncesIn(now.totalFor(existingShop(shop)));
    }

    public int expiringStamps(int days) throws IllegalArgumentException {
        requireRange(days, 0, DAYS_FORESEEN);
        int count = 0;
        for (int shop = 0; shop < now.shopCount; shop++) {
            Shop asked = now.shops[shop];
            if (asked.isStampedOn(now.day) && !asked.isStampedOn(now.day + days)) {
                count++;
            }
        }
        return count;
    }

    public int daysUntilClosed(int shop) throws IndexOutOfBoundsException {
        requireShop(shop);
        spare.copyFrom(now);
        Shop asked = spare.shops[shop];
        for (int days = 0; days <= DAYS_FORESEEN; days++) {
            if (!asked.open) {
                return days;
            }
            spare.passMany(1);
        }
        return NONE;
    }

    // ---- checks and output

    public int coinError() {
        int error = -now.coins;
        for (int shop = 0; shop < now.shopCount; shop++) {
            Shop counted = now.shops[shop];
            error += counted.firstPurse + counted.gains - counted.purse;
        }
        return error;
    }

    public double meanExcess() {
        int sum = 0;
        for (int shop = 0; shop < now.shopCount; shop++) {
            sum += now.totalFor(now.shops[shop]);
        }
        // A setup always names a shop; the test keeps 0 from ever being the divisor.
        return now.shopCount > 0 ? (double) sum / (double) now.shopCount : 0.0;
    }

    public float trueShare() {
        int count = 0;
        for (int shop = 0; shop < now.shopCount; shop++) {
            if (now.hasTrueScale(now.shops[shop])) {
                count++;
            }
        }
        return now.shopCount > 0 ? (float) count / (float) now.shopCount : 0.0f;
    }

    public int writeShop(int shop) throws IndexOutOfBoundsException {
        Shop written = existingShop(shop);
        output.setLength(0);
        output.append(written.purse);
        output.append(now.hasTrueScale(written) ? 't' : 'f');
        if (written.isStampedOn(now.day)) {
            output.append('s');
        }
        if (!written.open) {
            output.append('x');
        }
        return output.length();
    }

    public int outputByte(int index) {
        if (index < 0 || index >= output.length()) {
            return NONE;
        }
        return output.charAt(index);
    }

    private void requireShop(int shop) throws IndexOutOfBoundsException {
        if (shop < 0 || shop >= now.shopCount) {
            throw new IndexOutOfBoundsException("no such shop");
        }
    }

    private Shop existingShop(int shop) throws IndexOutOfBoundsException {
        requireShop(shop);
        return now.shops[shop];
    }

    private static void requireRange(int number, int low, int high) throws IllegalArgumentException {
        if (number < low || number > high) {
            throw new IllegalArgumentException("a number is out of range");
        }
    }

    private static void requireState(boolean fits) throws IllegalStateException {
        if (!fits) {
            throw new IllegalStateException("the shop is not in a state for this");
        }
    }

    private static void requireGoodText(boolean good) throws IllegalArgumentException {
        if (!good) {
            throw new IllegalArgumentException("the text has an error");
        }
    }

    /** A shop with its scale. */
    private static final class Shop {
        int firstPurse;
        int purse;
        int offset;
        int slope;
        int drift;
        int portion;
        int sales;
        int thumb;
        int caution;
        int complaints;
        int failures;
        int latestVisit;
        int stampedUntil;
        int fines;
        int gains;
        boolean open;

        /** Takes the eight numbers of a SHOP in the grammar. */
        void begin(int[] row) {
            firstPurse = row[0];
            purse = row[0];
            offset = row[1] - 500;
            slope = row[2] - 50;
            drift = row[3] - 5;
            portion = row[4];
            sales = row[5];
            thumb = row[6];
            caution = row[7];
            complaints = 0;
            failures = 0;
            latestVisit = NONE;
            stampedUntil = 0;
            fines = 0;
            gains = 0;
            open = true;
        }

        void copyFrom(Shop other) {
            firstPurse = other.firstPurse;
            purse = other.purse;
            offset = other.offset;
            slope = other.slope;
            drift = other.drift;
            portion = other.portion;
            sales = other.sales;
            thumb = other.thumb;
            caution = other.caution;
            complaints = other.complaints;
            failures = other.failures;
            latestVisit = other.latestVisit;
            stampedUntil = other.stampedUntil;
            fines = other.fines;
            gains = other.gains;
            open = other.open;
        }

        int errorFor(int grams) {
            return offset + grams * slope / 1000;
        }

        boolean isStampedOn(int someDay) {
            return someDay <= stampedUntil;
        }

        boolean usesThumbOn(int someDay) {
            return latestVisit == NONE || someDay - latestVisit > caution;
        }

        int falseGramsOn(int someDay) {
            return errorFor(portion) + (usesThumbOn(someDay) ? thumb : 0);
        }

        void driftOneDay() {
            offset = Math.max(-OFFSET_LIMIT, Math.min(OFFSET_LIMIT, offset + drift));
        }

        void straighten() {
            offset = 0;
            slope = 0;
        }

        boolean canPayRepair() {
            return open && purse >= REPAIR_PRICE;
        }

        void openAgain() {
            open = true;
            failures = 0;
        }
    }

    /** The whole state that undo and snapshots concern. */
    private static final class Bureau {
        int base;
        int rate;
        int fee;
        int validity;
        int price;
        int inspectors;
        int seed;
        int coins;
        int visits;
        int day;
        int weightCount;
        int shopCount;
        final int[] weights = new int[WEIGHT_LIMIT];
        final Shop[] shops = new Shop[SHOP_LIMIT];

        Bureau() {
            for (int i = 0; i < SHOP_LIMIT; i++) {
                shops[i] = new Shop();
            }
        }

        /** Takes the seven numbers of "bureau" in the grammar; weights and shops are added afterwards. */
        void begin(int[] row) {
            base = row[0];
            rate = row[1];
            fee = row[2];
            validity = row[3];
            price = row[4];
            inspectors = row[5];
            seed = row[6];
            coins = 0;
            visits = 0;
            day = 0;
            weightCount = 0;
            shopCount = 0;
        }

        void addWeight(int grams) {
            if (weightCount < WEIGHT_LIMIT) {
                weights[weightCount] = grams;
                weightCount++;
            }
        }

        void addShop(int[] row) {
            if (shopCount < SHOP_LIMIT) {
                shops[shopCount].begin(row);
                shopCount++;
            }
        }

        void copyFrom(Bureau other) {
            base = other.base;
            rate = other.rate;
            fee = other.fee;
            validity = other.validity;
            price = other.price;
            inspectors = other.inspectors;
            seed = other.seed;
            coins = other.coins;
            visits = other.visits;
            day = other.day;
            weightCount = other.weightCount;
            shopCount = other.shopCount;
            for (int i = 0; i < weightCount; i++) {
                weights[i] = other.weights[i];
            }
            for (int i = 0; i < shopCount; i++) {
                shops[i].copyFrom(other.shops[i]);
            }
        }

        boolean hasWeight(int grams) {
            for (int i = 0; i < weightCount; i++) {
                if (weights[i] == grams) {
                    return true;
                }
            }
            return false;
        }

        int boundFor(int grams) {
            return base + grams * rate / 1000;
        }

        int excessFor(Shop shop, int grams) {
            return Math.max(0, Math.abs(shop.errorFor(grams)) - boundFor(grams));
        }

        int totalFor(Shop shop) {
            int total = 0;
            for (int i = 0; i < weightCount; i++) {
                total += excessFor(shop, weights[i]);
            }
            return total;
        }

        boolean hasTrueScale(Shop shop) {
            // No excess is negative, so that none can make up for another in the sum.
            return totalFor(shop) == 0;
        }

        int worstWeightFor(Shop shop) {
            int worst = 0;
            for (int i = 1; i < weightCount; i++) {
                if (excessFor(shop, weights[i]) > excessFor(shop, weights[worst])) {
                    worst = i;
                }
            }
            return worst;
        }

        int ouncesIn(int grams) {
            return (grams + 27) / 28;
        }

        int fineFor(int total, boolean stamped) {
            return fee * ouncesIn(total) + (stamped ? 0 : 5 * fee);
        }

        int gainFor(Shop shop, int falseGrams) {
            return shop.sales * falseGrams * price / 1000;
        }

        int countOpen() {
            int count = 0;
            for (int i = 0; i < shopCount; i++) {
                if (shops[i].open) {
                    count++;
                }
            }
            return count;
        }

        /** The number of shops that come before this one in the order of complaints. */
        int rankOf(int index) {
            int complaints = shops[index].complaints;
            int rank = 0;
            for (int i = 0; i < shopCount; i++) {
                int others = shops[i].complaints;
                if (others > complaints || (others == complaints && i < index)) {
                    rank++;
                }
            }
            return rank;
        }

        /** Answers how many visits the inspectors made. */
        int passMany(int days) {
            int made = 0;
            for (int i = 0; i < days; i++) {
                beginDay();
                trade();
                for (int sent = 0; sent < inspectors; sent++) {
                    int chosen = chooseShop();
                    if (chosen != NONE) {
                        inspect(shops[chosen]);
                        made++;
                    }
                }
            }
            return made;
        }

        void beginDay() {
            day++;
            for (int i = 0; i < shopCount; i++) {
                shops[i].driftOneDay();
            }
        }

        void trade() {
            for (int i = 0; i < shopCount; i++) {
                if (shops[i].open) {
                    makeSales(shops[i]);
                }
            }
        }

        void makeSales(Shop shop) {
            int falseGrams = shop.falseGramsOn(day);
            int gain = gainFor(shop, falseGrams);
            shop.purse += gain;
            shop.gains += gain;
            if (shop.sales > 0 && falseGrams > shop.portion / 20) {
                shop.complaints++;
            }
        }

        boolean canBeVisited(Shop shop) {
            return shop.open && shop.latestVisit != day;
        }

        /** Answers the shop for the next visit of this day, or NONE; moves the seed if it is needed. */
        int chooseShop() {
            int chosen = mostAccused();
            if (chosen != NONE || nextToVisitFrom(0) == NONE || shopCount < 1) {
                return chosen;
            }
            seed = (75 * seed + 74) % SEED_MODULUS;
            return nextToVisitFrom(seed % shopCount);
        }

        /** The shop with the most complaints that can be visited, or NONE if none has complaints. */
        int mostAccused() {
            int chosen = NONE;
            int most = 0;
            for (int i = 0; i < shopCount; i++) {
                if (canBeVisited(shops[i]) && shops[i].complaints > most) {
                    chosen = i;
                    most = shops[i].complaints;
                }
            }
            return chosen;
        }

        /** The first shop that can be visited, with shop 0 after the last one, or NONE. */
        int nextToVisitFrom(int first) {
            int index = first;
            for (int looked = 0; looked < shopCount; looked++) {
                if (canBeVisited(shops[index])) {
                    return index;
                }
                index = index + 1 < shopCount ? index + 1 : 0;
            }
            return NONE;
        }

        /** Makes a visit and answers the fine. */
        int inspect(Shop shop) {
            int total = totalFor(shop);
            boolean stamped = shop.isStampedOn(day);
            int fine = fineFor(total, stamped);
            visits++;
            shop.latestVisit = day;
            shop.complaints = 0;
            if (total > 0 || !stamped) {
                shop.purse -= fine;
                shop.fines += fine;
                coins += fine;
                shop.failures++;
            }
            if (total > 0) {
                shop.straighten();
            }
            shop.stampedUntil = day + validity;
            if (shop.failures >= FAILURES_TO_CLOSE) {
                shop.open = false;
            }
            return fine;
        }

        void repairScale(Shop shop) {
            shop.straighten();
            shop.purse -= REPAIR_PRICE;
            coins += REPAIR_PRICE;
        }

        /** Does nothing and answers false if the method for the command would throw. */
        boolean perform(Script script, int index) {
            int number = script.numbers[index];
            Shop shop = shops[script.shops[index]];
            switch (script.verbs[index]) {
                case DAYS_VERB:
                    passMany(number);
                    return true;
                case VISIT_VERB:
                    if (!shop.open) {
                        return false;
                    }
                    inspect(shop);
                    return true;
                case REPAIR_VERB:
                    if (!shop.canPayRepair()) {
                        return false;
                    }
                    repairScale(shop);
                    return true;
                case THUMB_VERB:
                    shop.thumb = number;
                    return true;
                case COMPLAIN_VERB:
                    if (!shop.open) {
                        return false;
                    }
                    shop.complaints++;
                    return true;
                case OPEN_VERB:
                    if (shop.open) {
                        return false;
                    }
                    shop.openAgain();
                    return true;
                default:
                    return false;
            }
        }
    }

    /** The states before the latest changes, in a ring; the oldest one gives way. */
    private static final class History {
        final Bureau[] past = new Bureau[UNDO_LIMIT];
        int count;
        int next;

        void remember(Bureau bureau) {
            if (past[next] == null) {
                past[next] = new Bureau();
            }
            past[next].copyFrom(bureau);
            next = next + 1 < UNDO_LIMIT ? next + 1 : 0;
            if (count < UNDO_LIMIT) {
                count++;
            }
        }

        /** Answers false if there is nothing to take back. */
        boolean takeBack(Bureau bureau) {
            int latest = next > 0 ? next - 1 : UNDO_LIMIT - 1;
            if (count == 0 || past[latest] == null) {
                return false;
            }
            bureau.copyFrom(past[latest]);
            next = latest;
            count--;
            return true;
        }
    }

    /** The commands of a script. */
    private static final class Script {
        final int[] verbs = new int[COMMAND_LIMIT];
        final int[] shops = new int[COMMAND_LIMIT];
        final int[] numbers = new int[COMMAND_LIMIT];
        int count;

        void add(int verb, int shop, int number) {
            if (count < COMMAND_LIMIT) {
                verbs[count] = verb;
                shops[count] = shop;
                numbers[count] = number;
                count++;
            }
        }
    }

    /** The input buffer, and the token that is read at present. */
    private static final class Input {
        final byte[] bytes = new byte[INPUT_LIMIT];
        int length;
        int kind;
        int start;
        int end;
        int value;

        void putByte(byte one) {
            if (length < INPUT_LIMIT) {
                bytes[length] = one;
                length++;
            }
        }

        void putFour(int four) {
            putByte((byte) (four >> 24));
            putByte((byte) (four >> 16));
            putByte((byte) (four >> 8));
            putByte((byte) four);
        }

        void putText(String text) {
            for (int i = 0; i < text.length(); i++) {
                putByte((byte) text.charAt(i));
            }
        }

        void readFirst() {
            end = 0;
            readNext();
        }

        void readNext() {
            while (end < length && bytes[end] == ' ') {
                end++;
            }
            start = end;
            kind = end < length ? kindOf(bytes[end]) : END_TOKEN;
            if (kind == WORD_TOKEN) {
                while (end < length && kindOf(bytes[end]) == WORD_TOKEN) {
                    end++;
                }
            } else if (kind == NUMBER_TOKEN) {
                readNumber();
            } else if (kind != END_TOKEN) {
                end++;
            }
        }

        void readNumber() {
            value = 0;
            while (end < length && bytes[end] >= '0' && bytes[end] <= '9') {
                if (value < LARGE) {
                    value = 10 * value + bytes[end] - '0';
                }
                end++;
            }
        }

        /** The kind of the token that a byte belongs to. */
        int kindOf(byte one) {
            if (one >= 'a' && one <= 'z') {
                return WORD_TOKEN;
            }
            if (one >= '0' && one <= '9') {
                return NUMBER_TOKEN;
            }
            return one == ';' ? SEMICOLON_TOKEN : STRANGE_TOKEN;
        }

        boolean isWord(String word) {
            if (kind != WORD_TOKEN || end - start != word.length()) {
                return false;
            }
            for (int i = 0; i < word.length(); i++) {
                if (bytes[start + i] != word.charAt(i)) {
                    return false;
                }
            }
            return true;
        }
    }

    /** Reads the input by the grammar; a method that answers false has set code and position. */
    private static final class Parser {
        final Input input = new Input();
        final Script script = new Script();
        final int[] row = new int[ROW_LENGTH];
        int number;
        int code;
        int position;

        /** Leaves the buffer empty and no error reported, as a new object has them. */
        Bureau readFirstSetup() {
            Bureau bureau = new Bureau();
            input.putText(FIRST_SETUP);
            readSetup(bureau);
            input.length = 0;
            return bureau;
        }

        boolean readSetup(Bureau bureau) {
            start();
            return readBureau(bureau) && readWeights(bureau) && readShops(bureau);
        }

        boolean readScript(int shopCount) {
            start();
            script.count = 0;
            for (int i = 0; i < COMMAND_LIMIT; i++) {
                if (input.kind == END_TOKEN) {
                    return true;
                }
                if (!takeCommand(shopCount)) {
                    return false;
                }
            }
            return input.kind == END_TOKEN || fail(presentVerb() == NONE ? SYNTAX : LIMIT);
        }

        void start() {
            code = 0;
            position = NONE;
            input.readFirst();
        }

        boolean fail(int error) {
            code = error;
            position = input.start;
            return false;
        }

        boolean readBureau(Bureau bureau) {
            if (!takeWord("bureau") || !takeRow(BUREAU_RANGES) || !takeSemicolon()) {
                return false;
            }
            bureau.begin(row);
            return true;
        }

        boolean readWeights(Bureau bureau) {
            if (!takeWord("weights") || !takeWeight(bureau)) {
                return false;
            }
            // With the first one this comes to one more than there may be: takeWeight refuses that.
            for (int i = 0; i < WEIGHT_LIMIT && input.kind == NUMBER_TOKEN; i++) {
                if (!takeWeight(bureau)) {
                    return false;
                }
            }
            return takeSemicolon();
        }

        boolean takeWeight(Bureau bureau) {
            if (!isNumberWithin(1, HEAVIEST)) {
                return false;
            }
            if (bureau.hasWeight(input.value)) {
                return fail(TWICE);
            }
            if (bureau.weightCount >= WEIGHT_LIMIT) {
                return fail(LIMIT);
            }
            bureau.addWeight(input.value);
            input.readNext();
            return true;
        }

        boolean readShops(Bureau bureau) {
            for (int i = 0; i < SHOP_LIMIT; i++) {
                if (i > 0 && input.kind == END_TOKEN) {
                    return true;
                }
                if (!takeWord("shop") || !takeRow(SHOP_RANGES) || !takeSemicolon()) {
                    return false;
                }
                bureau.addShop(row);
            }
            return input.kind == END_TOKEN || fail(input.isWord("shop") ? LIMIT : SYNTAX);
        }

        boolean takeCommand(int shopCount) {
            int verb = presentVerb();
            if (verb == NONE) {
                return fail(SYNTAX);
            }
            input.readNext();
            if (verb == DAYS_VERB) {
                return takeNumber(1, DAYS_AT_ONCE) && takeCommandEnd(verb, 0);
            }
            if (!takeNumber(0, shopCount - 1)) {
                return false;
            }
            int shop = number;
            if (verb == THUMB_VERB && !takeNumber(0, THUMB_LIMIT)) {
                return false;
            }
            return takeCommandEnd(verb, shop);
        }

        boolean takeCommandEnd(int verb, int shop) {
            script.add(verb, shop, number);
            return takeSemicolon();
        }

        /** The verb of the present token, or NONE if it is no command's first word. */
        int presentVerb() {
            if (input.isWord("days")) {
                return DAYS_VERB;
            }
            if (input.isWord("visit")) {
                return VISIT_VERB;
            }
            if (input.isWord("repair")) {
                return REPAIR_VERB;
            }
            if (input.isWord("thumb")) {
                return THUMB_VERB;
            }
            if (input.isWord("complain")) {
                return COMPLAIN_VERB;
            }
            return input.isWord("open") ? OPEN_VERB : NONE;
        }

        boolean takeWord(String word) {
            if (!input.isWord(word)) {
                return fail(SYNTAX);
            }
            input.readNext();
            return true;
        }

        boolean takeSemicolon() {
            if (input.kind != SEMICOLON_TOKEN) {
                return fail(SYNTAX);
            }
            input.readNext();
            return true;
        }

        boolean isNumberWithin(int low, int high) {
            if (input.kind != NUMBER_TOKEN) {
                return fail(SYNTAX);
            }
            return (input.value >= low && input.value <= high) || fail(RANGE);
        }

        boolean takeNumber(int low, int high) {
            if (!isNumberWithin(low, high)) {
                return false;
            }
            number = input.value;
            input.readNext();
            return true;
        }

        boolean takeRow(int[] ranges) {
            for (int i = 0; i < ROW_LENGTH && 2 * i + 1 < ranges.length; i++) {
                if (!takeNumber(ranges[2 * i], ranges[2 * i + 1])) {
                    return false;
                }
                row[i] = number;
            }
            return true;
        }
    }
}
