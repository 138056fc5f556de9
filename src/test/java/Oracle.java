import java.io.ByteArrayOutputStream;
import java.math.BigInteger;
import java.nio.charset.StandardCharsets;
import java.util.ArrayDeque;
import java.util.ArrayList;
import java.util.Comparator;
import java.util.Deque;
import java.util.List;
import java.util.NoSuchElementException;
import java.util.function.Predicate;
import java.util.regex.Matcher;
import java.util.regex.Pattern;

/** The document a second time, written apart from the class and in another way, to compare with. */
public final class Oracle {
    private static final class Shop {
        int purseOfSetup, purse, offset, slope, drift, portion, sales, thumb, caution;
        int complaints, failures, fines, gains, stamp;
        Integer latest = null;
        boolean closed;

        Shop copy() {
            Shop s = new Shop();
            s.purseOfSetup = purseOfSetup;
            s.purse = purse;
            s.offset = offset;
            s.slope = slope;
            s.drift = drift;
            s.portion = portion;
            s.sales = sales;
            s.thumb = thumb;
            s.caution = caution;
            s.complaints = complaints;
            s.failures = failures;
            s.fines = fines;
            s.gains = gains;
            s.stamp = stamp;
            s.latest = latest;
            s.closed = closed;
            return s;
        }
    }

    private static final class World {
        int base, rate, fee, validity, price, inspectors, seed, coins, visits, day;
        List<Integer> weights = new ArrayList<>();
        List<Shop> shops = new ArrayList<>();

        World copy() {
            World w = new World();
            w.base = base;
            w.rate = rate;
            w.fee = fee;
            w.validity = validity;
            w.price = price;
            w.inspectors = inspectors;
            w.seed = seed;
            w.coins = coins;
            w.visits = visits;
            w.day = day;
            w.weights.addAll(weights);
            shops.forEach(s -> w.shops.add(s.copy()));
            return w;
        }
    }

    /** An error of a text; not one of the exceptions that the document names. */
    private static final class TextError extends Exception {
        private static final long serialVersionUID = 1L;
        final int code, at;

        TextError(int code, int at) {
            this.code = code;
            this.at = at;
        }
    }

    private record Token(String text, int at) {
        boolean isNumber() {
            return text.matches("[0-9]+");
        }
    }

    private World w = new World();
    private byte[] buffer = new byte[0];
    private String output = "";
    private int code = 0, at = -1;
    private final World[] slots = new World[2];
    private final Deque<World> changes = new ArrayDeque<>();
    private List<Token> tokens;

    public Oracle() {
        World first = new World();
        first.base = 5;
        first.rate = 10;
        first.fee = 4;
        first.validity = 10;
        first.price = 20;
        first.inspectors = 1;
        first.seed = 7;
        first.weights.addAll(List.of(100, 500, 2000));
        first.shops.add(shop(100, 500, 50, 7, 250, 10, 20, 3));
        first.shops.add(shop(50, 530, 50, 5, 1000, 4, 0, 0));
        first.shops.add(shop(200, 480, 60, 4, 100, 30, 0, 5));
        w = first;
    }

    private static Shop shop(int... n) {
        Shop s = new Shop();
        s.purseOfSetup = n[0];
        s.purse = n[0];
        s.offset = n[1] - 500;
        s.slope = n[2] - 50;
        s.drift = n[3] - 5;
        s.portion = n[4];
        s.sales = n[5];
        s.thumb = n[6];
        s.caution = n[7];
        return s;
    }

    // texts

    private void tokenize() {
        tokens = new ArrayList<>();
        Matcher m = Pattern.compile("[a-z]+|[0-9]+|[^ ]", Pattern.DOTALL).matcher(new String(buffer, StandardCharsets.ISO_8859_1));
        while (m.find()) {
            tokens.add(new Token(m.group(), m.start()));
        }
        tokens.add(new Token("", buffer.length));
    }

    private Token take(Predicate<Token> fits) throws TextError {
        Token token = tokens.get(0);
        if (!fits.test(token)) {
            throw new TextError(1, token.at);
        }
        if (tokens.size() > 1) {
            tokens.remove(0);
        }
        return token;
    }

    private void word(String text) throws TextError {
        take(t -> t.text.equals(text));
    }

    private int number(int low, int high) throws TextError {
        Token token = take(Token::isNumber);
        BigInteger value = new BigInteger(token.text);
        if (value.compareTo(BigInteger.valueOf(low)) < 0 || value.compareTo(BigInteger.valueOf(high)) > 0) {
            throw new TextError(2, token.at);
        }
        return value.intValue();
    }

    private boolean atEnd() {
        return tokens.get(0).text.isEmpty();
    }

    private World setup() throws TextError {
        World made = new World();
        word("bureau");
        made.base = number(0, 50);
        made.rate = number(0, 50);
        made.fee = number(0, 99);
        made.validity = number(1, 99);
        made.price = number(1, 50);
        made.inspectors = number(0, 3);
        made.seed = number(0, 65536);
        word(";");
        word("weights");
        do {
            int place = tokens.get(0).at;
            int grams = number(1, 5000);
            if (made.weights.contains(grams)) {
                throw new TextError(3, place);
            }
            if (made.weights.size() == 6) {
                throw new TextError(4, place);
            }
            made.weights.add(grams);
        } while (tokens.get(0).isNumber());
        word(";");
        do {
            int place = tokens.get(0).at;
            word("shop");
            if (made.shops.size() == 8) {
                throw new TextError(4, place);
            }
            made.shops.add(shop(number(0, 9999), number(0, 1000), number(0, 100), number(0, 10), number(1, 5000),
                number(0, 50), number(0, 100), number(0, 30)));
            word(";");
        } while (!atEnd());
        return made;
    }

    private List<String[]> script() throws TextError {
        List<String[]> commands = new ArrayList<>();
        while (!atEnd()) {
            Token verb = take(t -> t.text.matches("days|visit|repair|thumb|complain|open"));
            if (commands.size() == 20) {
                throw new TextError(4, verb.at);
            }
            int first = verb.text.equals("days") ? number(1, 100) : number(0, w.shops.size() - 1);
            int second = verb.text.equals("thumb") ? number(0, 100) : 0;
            word(";");
            commands.add(new String[] {verb.text, "" + first, "" + second});
        }
        return commands;
    }

    private void report(TextError error) {
        code = error == null ? 0 : error.code;
        at = error == null ? -1 : error.at;
        buffer = new byte[0];
    }

    // what happens

    private static int error(Shop s, int grams) {
        return s.offset + grams * s.slope / 1000;
    }

    private static int excess(World w, Shop s, int grams) {
        int over = Math.abs(error(s, grams)) - (w.base + grams * w.rate / 1000);
        return over < 0 ? 0 : over;
    }

    private static int total(World w, Shop s) {
        return w.weights.stream().mapToInt(g -> excess(w, s, g)).sum();
    }

    private static boolean isTrue(World w, Shop s) {
        return w.weights.stream().allMatch(g -> excess(w, s, g) == 0);
    }

    private static boolean stamped(World w, Shop s) {
        return !(w.day > s.stamp);
    }

    private static int fine(World w, Shop s) {
        if (isTrue(w, s) && stamped(w, s)) {
            return 0;
        }
        int ounces = (total(w, s) + 27) / 28;
        return w.fee * ounces + (stamped(w, s) ? 0 : 5 * w.fee);
    }

    private static int inspect(World w, Shop s) {
        boolean fails = !isTrue(w, s) || !stamped(w, s);
        int fine = fine(w, s);
        s.latest = w.day;
        s.complaints = 0;
        w.visits++;
        if (fails) {
            s.purse -= fine;
            w.coins += fine;
            s.fines += fine;
            s.failures++;
        }
        if (!isTrue(w, s)) {
            s.offset = 0;
            s.slope = 0;
        }
        s.stamp = w.day + w.validity;
        s.closed = s.closed || s.failures >= 3;
        return fine;
    }

    private static boolean usesThumb(Shop s, int day) {
        return s.latest == null || day - s.latest > s.caution;
    }

    private static int gain(World w, Shop s) {
        int grams = error(s, s.portion) + (usesThumb(s, w.day) ? s.thumb : 0);
        return s.sales * grams * w.price / 1000;
    }

    private static void morning(World w) {
        w.day++;
        for (Shop s : w.shops) {
            s.offset += s.drift;
            if (s.offset > 500) {
                s.offset = 500;
            }
            if (s.offset < -500) {
                s.offset = -500;
            }
        }
        for (Shop s : w.shops) {
            if (s.closed) {
                continue;
            }
            int gain = gain(w, s);
            s.purse += gain;
            s.gains += gain;
            int grams = error(s, s.portion) + (usesThumb(s, w.day) ? s.thumb : 0);
            if (s.sales >= 1 && grams > s.portion / 20) {
                s.complaints++;
            }
        }
    }

    private static int choose(World w) {
        List<Integer> free = new ArrayList<>();
        for (int i = 0; i < w.shops.size(); i++) {
            Shop s = w.shops.get(i);
            if (!s.closed && (s.latest == null || s.latest != w.day)) {
                free.add(i);
            }
        }
        if (free.isEmpty()) {
            return -1;
        }
        int most = free.stream().mapToInt(i -> w.shops.get(i).complaints).max().getAsInt();
        if (most > 0) {
            return free.stream().filter(i -> w.shops.get(i).complaints == most).findFirst().get();
        }
        w.seed = (int) ((75L * w.seed + 74) % 65537);
        int from = w.seed % w.shops.size();
        return free.stream().filter(i -> i >= from).findFirst().orElse(free.get(0));
    }

    private static int live(World w, int days) {
        int made = 0;
        for (int d = 0; d < days; d++) {
            morning(w);
            for (int i = 0; i < w.inspectors; i++) {
                int chosen = choose(w);
                if (chosen >= 0) {
                    inspect(w, w.shops.get(chosen));
                    made++;
                }
            }
        }
        return made;
    }

    private void change() {
        changes.push(w.copy());
        if (changes.size() > 8) {
            changes.removeLast();
        }
    }

    private Shop get(int shop) {
        if (shop < 0 || shop >= w.shops.size()) {
            throw new IndexOutOfBoundsException();
        }
        return w.shops.get(shop);
    }

    private static void within(int n, int low, int high) {
        if (n < low || n > high) {
            throw new IllegalArgumentException();
        }
    }

    private static void state(boolean good) {
        if (!good) {
            throw new IllegalStateException();
        }
    }

    // the face

    public int append(int a, int b, int c, int d, int e) {
        state(buffer.length + 20 <= 500);
        ByteArrayOutputStream all = new ByteArrayOutputStream();
        all.writeBytes(buffer);
        for (int four : new int[] {a, b, c, d, e}) {
            all.writeBytes(new byte[] {(byte) (four >>> 24), (byte) (four >>> 16), (byte) (four >>> 8), (byte) four});
        }
        buffer = all.toByteArray();
        return buffer.length;
    }

    public int truncate(int length) {
        within(length, 0, buffer.length);
        buffer = java.util.Arrays.copyOf(buffer, length);
        return length;
    }

    public int errorCode() {
        return code;
    }

    public int errorPosition() {
        return at;
    }

    public int loadSetup() {
        tokenize();
        World made;
        try {
            made = setup();
        } catch (TextError e) {
            report(e);
            throw new IllegalArgumentException();
        }
        report(null);
        change();
        w = made;
        return w.shops.size();
    }

    public int runScript() {
        tokenize();
        List<String[]> commands;
        try {
            commands = script();
        } catch (TextError e) {
            report(e);
            throw new IllegalArgumentException();
        }
        report(null);
        change();
        int done = 0;
        for (String[] command : commands) {
            if (!execute(command[0], Integer.parseInt(command[1]), Integer.parseInt(command[2]))) {
                break;
            }
            done++;
        }
        return done;
    }

    /** Calls the methods themselves and forgets the changes that they remember. */
    private boolean execute(String verb, int first, int second) {
        List<World> kept = new ArrayList<>(changes);
        try {
            switch (verb) {
                case "days" -> passDays(first);
                case "visit" -> visit(first);
                case "repair" -> repair(first);
                case "thumb" -> setThumb(first, second);
                case "complain" -> complain(first);
                default -> reopen(first);
            }
            return true;
        } catch (IllegalStateException e) {
            return false;
        } finally {
            changes.clear();
            changes.addAll(kept);
        }
    }

    public int passDays(int count) {
        within(count, 1, 100);
        change();
        return live(w, count);
    }

    public int visit(int shop) {
        state(!get(shop).closed);
        change();
        return inspect(w, w.shops.get(shop));
    }

    public int repair(int shop) {
        Shop s = get(shop);
        state(!s.closed && s.purse >= 10);
        change();
        s.offset = 0;
        s.slope = 0;
        s.purse -= 10;
        w.coins += 10;
        return s.purse;
    }

    public int setThumb(int shop, int grams) {
        Shop s = get(shop);
        within(grams, 0, 100);
        change();
        int old = s.thumb;
        s.thumb = grams;
        return old;
    }

    public int complain(int shop) {
        Shop s = get(shop);
        state(!s.closed);
        change();
        return ++s.complaints;
    }

    public int reopen(int shop) {
        Shop s = get(shop);
        state(s.closed);
        change();
        s.closed = false;
        s.failures = 0;
        return openShops();
    }

    public int setInspectors(int count) {
        within(count, 0, 3);
        change();
        int old = w.inspectors;
        w.inspectors = count;
        return old;
    }

    public int setFee(int coins) {
        within(coins, 0, 99);
        change();
        int old = w.fee;
        w.fee = coins;
        return old;
    }

    public int undo() {
        if (changes.isEmpty()) {
            throw new NoSuchElementException();
        }
        w = changes.pop();
        return changes.size();
    }

    public void saveSnapshot(int slot) {
        within(slot, 0, 1);
        slots[slot] = w.copy();
    }

    public int restoreSnapshot(int slot) {
        within(slot, 0, 1);
        if (slots[slot] == null) {
            throw new NoSuchElementException();
        }
        change();
        w = slots[slot].copy();
        return w.day;
    }

    public int day() {
        return w.day;
    }

    public int weightCount() {
        return w.weights.size();
    }

    public int testWeight(int weight) {
        if (weight < 0 || weight >= w.weights.size()) {
            throw new IndexOutOfBoundsException();
        }
        return w.weights.get(weight);
    }

    public int bound(int grams) {
        within(grams, 1, 5000);
        return w.base + grams * w.rate / 1000;
    }

    public int fee() {
        return w.fee;
    }

    public int inspectors() {
        return w.inspectors;
    }

    public int seed() {
        return w.seed;
    }

    public int bureauCoins() {
        return w.coins;
    }

    public int visits() {
        return w.visits;
    }

    public int offset(int shop) {
        return get(shop).offset;
    }

    public int slope(int shop) {
        return get(shop).slope;
    }

    public int drift(int shop) {
        return get(shop).drift;
    }

    public int reading(int shop, int grams) {
        Shop s = get(shop);
        within(grams, 1, 5000);
        return grams + error(s, grams);
    }

    public int excess(int shop, int grams) {
        Shop s = get(shop);
        within(grams, 1, 5000);
        return excess(w, s, grams);
    }

    public int totalExcess(int shop) {
        return total(w, get(shop));
    }

    public boolean isTrue(int shop) {
        return isTrue(w, get(shop));
    }

    public int worstWeight(int shop) {
        Shop s = get(shop);
        int most = w.weights.stream().mapToInt(g -> excess(w, s, g)).max().getAsInt();
        int i = 0;
        while (excess(w, s, w.weights.get(i)) != most) {
            i++;
        }
        return i;
    }

    public int stampedUntil(int shop) {
        return get(shop).stamp;
    }

    public boolean isStamped(int shop) {
        return stamped(w, get(shop));
    }

    public int shopCount() {
        return w.shops.size();
    }

    public int openShops() {
        return (int) w.shops.stream().filter(s -> !s.closed).count();
    }

    public boolean isOpen(int shop) {
        return !get(shop).closed;
    }

    public int purse(int shop) {
        return get(shop).purse;
    }

    public int thumb(int shop) {
        return get(shop).thumb;
    }

    public int complaints(int shop) {
        return get(shop).complaints;
    }

    public int failures(int shop) {
        return get(shop).failures;
    }

    public int latestVisit(int shop) {
        return get(shop).latest == null ? -1 : get(shop).latest;
    }

    public int finesOf(int shop) {
        return get(shop).fines;
    }

    public int gainsOf(int shop) {
        return get(shop).gains;
    }

    public int shopAtRank(int rank) {
        List<Shop> sorted = new ArrayList<>(w.shops);
        sorted.sort(Comparator.comparingInt(s -> -s.complaints));
        return rank < 0 || rank >= sorted.size() ? -1 : w.shops.indexOf(sorted.get(rank));
    }

    public boolean usesThumb(int shop) {
        return usesThumb(get(shop), w.day + 1);
    }

    public int fineIfVisited(int shop) {
        return fine(w, get(shop));
    }

    public int whyFail(int shop) {
        Shop s = get(shop);
        if (isTrue(w, s)) {
            return stamped(w, s) ? 0 : 2;
        }
        return stamped(w, s) ? 1 : 3;
    }

    public int nextGain(int shop) {
        int before = get(shop).gains;
        World next = w.copy();
        morning(next);
        return next.shops.get(shop).gains - before;
    }

    public int nextVisited() {
        World next = w.copy();
        morning(next);
        return next.inspectors == 0 ? -1 : choose(next);
    }

    public int daysUntilFalse(int shop) {
        Shop s = get(shop).copy();
        int days = 0;
        while (isTrue(w, s)) {
            if (days++ == 1000) {
                return -1;
            }
            s.offset = Math.min(500, Math.max(-500, s.offset + s.drift));
        }
        return days;
    }

    public int purseAfter(int shop, int days) {
        get(shop);
        within(days, 0, 200);
        World later = w.copy();
        live(later, days);
        return later.shops.get(shop).purse;
    }

    public int bestThumb(int shop, int days) {
        get(shop);
        within(days, 1, 100);
        int best = 100;
        int most = Integer.MIN_VALUE;
        for (int grams = 100; grams >= 0; grams -= 5) {
            World later = w.copy();
            later.shops.get(shop).thumb = grams;
            live(later, days);
            if (later.shops.get(shop).purse >= most) {
                most = later.shops.get(shop).purse;
                best = grams;
            }
        }
        return best;
    }

    public int mostFined() {
        Shop most = w.shops.stream().max(Comparator.comparingInt(s -> s.fines)).get();
        int i = 0;
        while (w.shops.get(i).fines != most.fines) {
            i++;
        }
        return i;
    }

    public int ounces(int shop) {
        return (total(w, get(shop)) + 27) / 28;
    }

    public int expiringStamps(int days) {
        within(days, 0, 200);
        return (int) w.shops.stream().filter(s -> s.stamp >= w.day && s.stamp < w.day + days).count();
    }

    public int daysUntilClosed(int shop) {
        get(shop);
        World later = w.copy();
        for (int days = 0; days <= 200; days++) {
            if (later.shops.get(shop).closed) {
                return days;
            }
            live(later, 1);
        }
        return -1;
    }

    public int coinError() {
        return 0;
    }

    public double meanExcess() {
        int sum = w.shops.stream().mapToInt(s -> total(w, s)).sum();
        return (double) sum / (double) w.shops.size();
    }

    public float trueShare() {
        return (float) w.shops.stream().filter(s -> isTrue(w, s)).count() / (float) w.shops.size();
    }

    public int writeShop(int shop) {
        Shop s = get(shop);
        output = s.purse + (isTrue(w, s) ? "t" : "f") + (stamped(w, s) ? "s" : "") + (s.closed ? "x" : "");
        return output.length();
    }

    public int outputByte(int index) {
        return index < 0 || index >= output.length() ? -1 : output.charAt(index);
    }
}
