/**
 * A calculator of consumer price indices over 4 strata, 12 items and 24 months.
 * The public methods check their arguments and leave the work to the classes inside.
 */
public final class PriceIndexCalculator {
    public static final int INVALID_ARGUMENT = -1;
    public static final int INVALID_STATE = -2;
    public static final int LIMIT_REACHED = -3;
    public static final int NONE = -9;

    private static final int STRATA = 4;
    private static final int MONTHS = 24;
    private static final int MONTHS_OF_YEAR = 12;
    private static final int ITEM_LIMIT = 12;
    private static final int CELLS = ITEM_LIMIT * MONTHS;
    private static final int GREATEST_SIZE = 1000;
    private static final int ALL_SEASONS = 4095;
    private static final int GREATEST_PRICE = 99999;
    private static final int GREATEST_WEIGHT = 100;
    private static final int FIRST_WEIGHT = 25;
    private static final int RATIO_OF_AVERAGES = 0;
    private static final int AVERAGE_OF_RATIOS = 1;
    private static final int HARMONIC_AVERAGE = 2;
    private static final int NO_ITEM = -1;
    private static final int UNDO_LIMIT = 8;
    private static final int DRIFT_OF_ZERO = 1000000;
    private static final int GREATEST_CHARACTER = 255;
    private static final int TEXT_LIMIT = 60;
    private static final int SHORTEST_QUOTATION = 6;
    private static final int QUOTATION_LIMIT = TEXT_LIMIT / SHORTEST_QUOTATION;
    private static final int NUMBER_DIGITS = 5;
    private static final int NO_NUMBER = -1;
    private static final int ERROR_AT_START = -10;

    private final Basket basket;
    private final History history;
    private final QuotationText text;
    private final PriceTable table;

    public PriceIndexCalculator() {
        basket = new Basket();
        history = new History();
        text = new QuotationText();
        table = new PriceTable(basket);
    }

    // ---- items and prices

    public int addItem(int stratum, int size, int seasons) {
        if (!isStratum(stratum) || !isWithin(size, 1, GREATEST_SIZE) || !isWithin(seasons, 1, ALL_SEASONS)) {
            return INVALID_ARGUMENT;
        }
        if (basket.items >= ITEM_LIMIT) {
            return LIMIT_REACHED;
        }
        beginEdit();
        return basket.append(stratum, size, seasons);
    }

    public int itemCount() {
        return basket.items;
    }

    public int setPrice(int item, int month, int price) {
        if (!isItem(item) || !isMonth(month) || !isWithin(price, 0, GREATEST_PRICE)) {
            return INVALID_ARGUMENT;
        }
        int previous = basket.quoted[cell(item, month)];
        beginEdit();
        basket.quoted[cell(item, month)] = price;
        return previous;
    }

    public int quotedPrice(int item, int month) {
        if (!isItem(item) || !isMonth(month)) {
            return INVALID_ARGUMENT;
        }
        return basket.quoted[cell(item, month)];
    }

    public int appendCharacter(int character) {
        if (!isWithin(character, 0, GREATEST_CHARACTER)) {
            return INVALID_ARGUMENT;
        }
        if (text.length >= TEXT_LIMIT) {
            return LIMIT_REACHED;
        }
        return text.append(character);
    }

    public int clearText() {
        return text.clear();
    }

    public int importPrices() {
        int answer = text.read(basket.items);
        if (answer < 0) {
            return answer;
        }
        beginEdit();
        for (int n = 0; n < answer && n < QUOTATION_LIMIT; n++) {
            basket.quoted[cell(text.item[n], text.month[n])] = text.price[n];
        }
        text.clear();
        return answer;
    }

    // ---- replacements

    public int replaceItem(int oldItem, int newItem, int overlap) {
        if (!isItem(oldItem) || !isItem(newItem) || oldItem == newItem || !isMonth(overlap)) {
            return INVALID_ARGUMENT;
        }
        if (!basket.canLink(oldItem, newItem, overlap)) {
            return INVALID_STATE;
        }
        beginEdit();
        basket.link(oldItem, newItem, overlap);
        return basket.linkCount();
    }

    public int endReplacement(int item) {
        if (!isItem(item)) {
            return INVALID_ARGUMENT;
        }
        if (!basket.isLinked(item)) {
            return INVALID_STATE;
        }
        beginEdit();
        basket.unlink(item);
        return basket.linkCount();
    }

    public int replacementOf(int item) {
        if (!isItem(item)) {
            return INVALID_ARGUMENT;
        }
        int newItem = basket.newItemOf[item];
        return newItem == NO_ITEM ? NONE : newItem;
    }

    // ---- settings

    public int setWeight(int stratum, int weight) {
        if (!isStratum(stratum) || !isWithin(weight, 0, GREATEST_WEIGHT)) {
            return INVALID_ARGUMENT;
        }
        int previous = basket.weight[stratum];
        beginEdit();
        basket.weight[stratum] = weight;
        return previous;
    }

    public int setFormula(int formula) {
        if (!isWithin(formula, RATIO_OF_AVERAGES, HARMONIC_AVERAGE)) {
            return INVALID_ARGUMENT;
        }
        int previous = basket.formula;
        beginEdit();
        basket.formula = formula;
        return previous;
    }

    // ---- known prices

    public int knownPriceBits(int item, int month) {
        if (!isItem(item) || !isMonth(month)) {
            return INVALID_ARGUMENT;
        }
        table.refresh();
        return table.known.has(item, month) ? Real.bits(table.known.get(item, month)) : NONE;
    }

    public int isImputed(int item, int month) {
        if (!isItem(item) || !isMonth(month)) {
            return INVALID_ARGUMENT;
        }
        table.refresh();
        if (!table.known.has(item, month)) {
            return NONE;
        }
        return table.hasImputed(item, month) ? 1 : 0;
    }

    public int imputedCount(int month) {
        if (!isMonth(month)) {
            return INVALID_ARGUMENT;
        }
        table.refresh();
        int count = 0;
        for (int item = 0; item < basket.items; item++) {
            if (table.hasImputed(item, month)) {
                count++;
            }
        }
        return count;
    }

    // ---- movements and indices

    public int matchedCount(int stratum, int from, int to) {
        if (!isStratum(stratum) || !isMonth(from) || !isMonth(to)) {
            return INVALID_ARGUMENT;
        }
        table.refresh();
        return table.effective.countMatched(stratum, from, to);
    }

    public int movementBits(int stratum, int from, int to) {
        if (!isStratum(stratum) || !isMonth(from) || !isMonth(to)) {
            return INVALID_ARGUMENT;
        }
        table.refresh();
        return Real.bits(table.effective.movement(stratum, from, to));
    }

    public int greatestRise(int stratum, int from, int to) {
        if (!isStratum(stratum) || !isMonth(from) || !isMonth(to)) {
            return INVALID_ARGUMENT;
        }
        table.refresh();
        int item = table.effective.steepest(stratum, from, to);
        return item == NO_ITEM ? NONE : item;
    }

    public int directIndex(int stratum, int base, int month) {
        if (!isStratum(stratum) || !isMonth(base) || !isMonth(month)) {
            return INVALID_ARGUMENT;
        }
        table.refresh();
        if (!table.hasDirect(stratum, base, month)) {
            return NONE;
        }
        return Real.hundredths(table.direct(stratum, base, month));
    }

    public int chainedIndex(int stratum, int base, int month) {
        if (!isStratum(stratum) || !isMonth(base) || !isMonth(month) || month < base) {
            return INVALID_ARGUMENT;
        }
        table.refresh();
        return Real.hundredths(table.chained(stratum, base, month));
    }

    public int drift(int stratum, int base, int month) {
        if (!isStratum(stratum) || !isMonth(base) || !isMonth(month) || month < base) {
            return INVALID_ARGUMENT;
        }
        table.refresh();
        if (!table.hasDirect(stratum, base, month)) {
            return NONE;
        }
        int chained = Real.hundredths(table.chained(stratum, base, month));
        int direct = Real.hundredths(table.direct(stratum, base, month));
        return DRIFT_OF_ZERO + (chained - direct);
    }

    public int aggregateIndex(int base, int month) {
        if (!isMonth(base) || !isMonth(month)) {
            return INVALID_ARGUMENT;
        }
        table.refresh();
        if (table.weightOfDirect(base, month) == 0) {
            return NONE;
        }
        return Real.hundredths(table.aggregate(base, month));
    }

    public int aggregateBits(int base, int month) {
        if (!isMonth(base) || !isMonth(month)) {
            return INVALID_ARGUMENT;
        }
        table.refresh();
        if (table.weightOfDirect(base, month) == 0) {
            return NONE;
        }
        return Real.bits(table.aggregate(base, month));
    }

    public int undo() {
        if (history.kept == 0) {
            return INVALID_STATE;
        }
        table.outdate();
        return history.takeBack(basket);
    }

    /** Every edit comes through here, once it is sure to succeed and before it changes anything. */
    private void beginEdit() {
        history.keep(basket);
        table.outdate();
    }

    private boolean isItem(int item) {
        return item >= 0 && item < basket.items;
    }

    private static boolean isStratum(int stratum) {
        return stratum >= 0 && stratum < STRATA;
    }

    private static boolean isMonth(int month) {
        return month >= 0 && month < MONTHS;
    }

    private static boolean isWithin(int value, int least, int greatest) {
        return value >= least && value <= greatest;
    }

    private static int cell(int item, int month) {
        return item * MONTHS + month;
    }

    /** All that undo brings back: items, quoted prices, replacements, weights and the formula. */
    private static final class Basket {
        int items;
        int formula;
        final int[] weight = new int[STRATA];
        final int[] stratum = new int[ITEM_LIMIT];
        final int[] size = new int[ITEM_LIMIT];
        final int[] seasons = new int[ITEM_LIMIT];
        final int[] newItemOf = new int[ITEM_LIMIT];
        final int[] oldItemOf = new int[ITEM_LIMIT];
        final int[] overlap = new int[ITEM_LIMIT];
        final int[] quoted = new int[CELLS];

        Basket() {
            for (int s = 0; s < STRATA; s++) {
                weight[s] = FIRST_WEIGHT;
            }
            for (int item = 0; item < ITEM_LIMIT; item++) {
                newItemOf[item] = NO_ITEM;
                oldItemOf[item] = NO_ITEM;
            }
        }

        void copyFrom(Basket other) {
            items = other.items;
            formula = other.formula;
            System.arraycopy(other.weight, 0, weight, 0, STRATA);
            System.arraycopy(other.stratum, 0, stratum, 0, ITEM_LIMIT);
            System.arraycopy(other.size, 0, size, 0, ITEM_LIMIT);
            System.arraycopy(other.seasons, 0, seasons, 0, ITEM_LIMIT);
            System.arraycopy(other.newItemOf, 0, newItemOf, 0, ITEM_LIMIT);
            System.arraycopy(other.oldItemOf, 0, oldItemOf, 0, ITEM_LIMIT);
            System.arraycopy(other.overlap, 0, overlap, 0, ITEM_LIMIT);
            System.arraycopy(other.quoted, 0, quoted, 0, CELLS);
        }

        /** The caller has seen that there is room; the new slot has no price and no replacement yet. */
        int append(int itemStratum, int itemSize, int itemSeasons) {
            int item = items;
            stratum[item] = itemStratum;
            size[item] = itemSize;
            seasons[item] = itemSeasons;
            items = item + 1;
            return item;
        }

        boolean isLinked(int item) {
            return newItemOf[item] != NO_ITEM || oldItemOf[item] != NO_ITEM;
        }

        boolean canLink(int oldItem, int newItem, int month) {
            return stratum[oldItem] == stratum[newItem]
                && !isLinked(oldItem) && !isLinked(newItem)
                && hasObserved(oldItem, month) && hasObserved(newItem, month);
        }

        void link(int oldItem, int newItem, int month) {
            newItemOf[oldItem] = newItem;
            oldItemOf[newItem] = oldItem;
            overlap[oldItem] = month;
        }

        /** The item is linked, as the old or as the new one. */
        void unlink(int item) {
            int oldItem = oldItemOf[item] == NO_ITEM ? item : oldItemOf[item];
            int newItem = newItemOf[oldItem];
            newItemOf[oldItem] = NO_ITEM;
            if (newItem != NO_ITEM) {
                oldItemOf[newItem] = NO_ITEM;
            }
        }

        int linkCount() {
            int count = 0;
            for (int item = 0; item < items; item++) {
                if (newItemOf[item] != NO_ITEM) {
                    count++;
                }
            }
            return count;
        }

        boolean hasObserved(int item, int month) {
            boolean inSeason = (seasons[item] >> (month % MONTHS_OF_YEAR) & 1) == 1;
            return inSeason && quoted[cell(item, month)] > 0;
        }

        float observed(int item, int month) {
            return Real.over((float) quoted[cell(item, month)], (float) size[item]);
        }

        boolean isPricedByNewItem(int item, int month) {
            return newItemOf[item] != NO_ITEM && month > overlap[item];
        }

        boolean hasEffective(int item, int month) {
            if (oldItemOf[item] != NO_ITEM) {
                return false;
            }
            if (!isPricedByNewItem(item, month)) {
                return hasObserved(item, month);
            }
            int newItem = newItemOf[item];
            return hasObserved(item, overlap[item]) && hasObserved(newItem, overlap[item])
                && hasObserved(newItem, month);
        }

        float effective(int item, int month) {
            if (!isPricedByNewItem(item, month)) {
                return observed(item, month);
            }
            int newItem = newItemOf[item];
            float link = Real.over(observed(item, overlap[item]), observed(newItem, overlap[item]));
            return Real.times(observed(newItem, month), link);
        }
    }

    /** The baskets before the last edits, in a ring that is made once. */
    private static final class History {
        private final Basket[] ring = new Basket[UNDO_LIMIT];
        private int next;
        int kept;

        History() {
            for (int slot = 0; slot < UNDO_LIMIT; slot++) {
                ring[slot] = new Basket();
            }
        }

        void keep(Basket basket) {
            Basket slot = ring[next];
            if (slot != null) {
                slot.copyFrom(basket);
            }
            next = next + 1 < UNDO_LIMIT ? next + 1 : 0;
            kept = kept < UNDO_LIMIT ? kept + 1 : UNDO_LIMIT;
        }

        /** The caller has seen that something is kept; returns what is still kept. */
        int takeBack(Basket basket) {
            next = next > 0 ? next - 1 : UNDO_LIMIT - 1;
            kept--;
            Basket slot = ring[next];
            if (slot != null) {
                basket.copyFrom(slot);
            }
            return kept;
        }
    }

    /** The text buffer, and the quotations of its last reading. */
    private static final class QuotationText {
        final int[] item = new int[QUOTATION_LIMIT];
        final int[] month = new int[QUOTATION_LIMIT];
        final int[] price = new int[QUOTATION_LIMIT];
        int length;
        private final int[] characters = new int[TEXT_LIMIT];
        private int position;

        /** The caller has seen that there is room. */
        int append(int character) {
            characters[length] = character;
            length++;
            return length;
        }

        int clear() {
            int previous = length;
            length = 0;
            return previous;
        }

        /** Returns the number of quotations, or -10 minus the error offset. */
        int read(int items) {
            position = 0;
            for (int n = 0; n < QUOTATION_LIMIT; n++) {
                if (!readQuotation(n, items)) {
                    return ERROR_AT_START - position;
                }
                if (position >= length) {
                    return n + 1;
                }
            }
            return ERROR_AT_START - position;
        }

        /** If this fails, position is the error offset. */
        private boolean readQuotation(int n, int items) {
            item[n] = readNumber(items - 1);
            if (item[n] == NO_NUMBER || !skip('@')) {
                return false;
            }
            month[n] = readNumber(MONTHS - 1);
            if (month[n] == NO_NUMBER || !skip('=')) {
                return false;
            }
            price[n] = readNumber(GREATEST_PRICE);
            return price[n] != NO_NUMBER && skip(';');
        }

        /** A wrong number is told at its first digit, so position goes back there. */
        private int readNumber(int greatest) {
            int start = position;
            int value = 0;
            for (; position < length && isDigit(characters[position]); position++) {
                if (position - start < NUMBER_DIGITS) {
                    value = value * 10 + (characters[position] - '0');
                }
            }
            int digits = position - start;
            if (hasNumberForm(start, digits) && value <= greatest) {
                return value;
            }
            position = start;
            return NO_NUMBER;
        }

        private boolean hasNumberForm(int start, int digits) {
            if (digits == 1) {
                return true;
            }
            return digits > 1 && digits <= NUMBER_DIGITS && characters[start] != '0';
        }

        private boolean skip(char expected) {
            if (position >= length || characters[position] != expected) {
                return false;
            }
            position++;
            return true;
        }

        private static boolean isDigit(int character) {
            return character >= '0' && character <= '9';
        }
    }

    /** A price or none for each item and month; movements and direct indices are computed alike over it. */
    private static final class PriceRows {
        private final Basket basket;
        private final boolean[] exists = new boolean[CELLS];
        private final float[] price = new float[CELLS];

        PriceRows(Basket basket) {
            this.basket = basket;
        }

        boolean has(int item, int month) {
            return exists[cell(item, month)];
        }

        float get(int item, int month) {
            return price[cell(item, month)];
        }

        void put(int item, int month, float value) {
            exists[cell(item, month)] = true;
            price[cell(item, month)] = value;
        }

        void remove(int item, int month) {
            exists[cell(item, month)] = false;
        }

        boolean isMatched(int item, int stratum, int from, int to) {
            return basket.stratum[item] == stratum && exists[cell(item, from)] && exists[cell(item, to)];
        }

        int countMatched(int stratum, int from, int to) {
            int count = 0;
            for (int item = 0; item < basket.items; item++) {
                if (isMatched(item, stratum, from, to)) {
                    count++;
                }
            }
            return count;
        }

        float movement(int stratum, int from, int to) {
            int matched = countMatched(stratum, from, to);
            if (matched == 0) {
                return 1f;
            }
            if (basket.formula == RATIO_OF_AVERAGES) {
                return Real.over(sumOfPrices(stratum, from, to, to), sumOfPrices(stratum, from, to, from));
            }
            if (basket.formula == AVERAGE_OF_RATIOS) {
                return Real.over(sumOfRatios(stratum, from, to), (float) matched);
            }
            return Real.over((float) matched, sumOfRatios(stratum, to, from));
        }

        private float sumOfPrices(int stratum, int from, int to, int month) {
            float sum = 0f;
            for (int item = 0; item < basket.items; item++) {
                if (isMatched(item, stratum, from, to)) {
                    sum = Real.plus(sum, get(item, month));
                }
            }
            return sum;
        }

        private float sumOfRatios(int stratum, int from, int to) {
            float sum = 0f;
            for (int item = 0; item < basket.items; item++) {
                if (isMatched(item, stratum, from, to)) {
                    sum = Real.plus(sum, Real.over(get(item, to), get(item, from)));
                }
            }
            return sum;
        }

        /** The matched item of the greatest ratio, the first one among equals. */
        int steepest(int stratum, int from, int to) {
            int best = NO_ITEM;
            float bestRatio = 0f;
            for (int item = 0; item < basket.items; item++) {
                if (isMatched(item, stratum, from, to)) {
                    float ratio = Real.over(get(item, to), get(item, from));
                    if (best == NO_ITEM || ratio > bestRatio) {
                        best = item;
                        bestRatio = ratio;
                    }
                }
            }
            return best;
        }
    }

    /** Effective and known prices, computed anew at the first question after an edit. */
    private static final class PriceTable {
        final PriceRows effective;
        final PriceRows known;
        private final Basket basket;
        private boolean fresh;

        PriceTable(Basket basket) {
            this.basket = basket;
            effective = new PriceRows(basket);
            known = new PriceRows(basket);
        }

        void outdate() {
            fresh = false;
        }

        void refresh() {
            if (fresh) {
                return;
            }
            for (int item = 0; item < basket.items; item++) {
                fillEffective(item);
            }
            for (int stratum = 0; stratum < STRATA; stratum++) {
                fillKnown(stratum);
            }
            fresh = true;
        }

        private void fillEffective(int item) {
            for (int month = 0; month < MONTHS; month++) {
                if (basket.hasEffective(item, month)) {
                    effective.put(item, month, basket.effective(item, month));
                } else {
                    effective.remove(item, month);
                }
            }
        }

        private void fillKnown(int stratum) {
            for (int month = 0; month < MONTHS; month++) {
                float movement = month == 0 ? 1f : effective.movement(stratum, month - 1, month);
                for (int item = 0; item < basket.items; item++) {
                    if (basket.stratum[item] == stratum) {
                        fillKnownCell(item, month, movement);
                    }
                }
            }
        }

        private void fillKnownCell(int item, int month, float movement) {
            if (effective.has(item, month)) {
                known.put(item, month, effective.get(item, month));
            } else if (month > 0 && known.has(item, month - 1)) {
                known.put(item, month, Real.times(known.get(item, month - 1), movement));
            } else {
                known.remove(item, month);
            }
        }

        boolean hasImputed(int item, int month) {
            return known.has(item, month) && !effective.has(item, month);
        }

        boolean hasDirect(int stratum, int base, int month) {
            return known.countMatched(stratum, base, month) > 0;
        }

        float direct(int stratum, int base, int month) {
            return Real.times(known.movement(stratum, base, month), 100f);
        }

        float chained(int stratum, int base, int month) {
            float index = 100f;
            for (int m = base; m < month; m++) {
                index = Real.times(index, effective.movement(stratum, m, m + 1));
            }
            return index;
        }

        int weightOfDirect(int base, int month) {
            int sum = 0;
            for (int stratum = 0; stratum < STRATA; stratum++) {
                if (hasDirect(stratum, base, month)) {
                    sum += basket.weight[stratum];
                }
            }
            return sum;
        }

        float aggregate(int base, int month) {
            float sum = 0f;
            for (int stratum = 0; stratum < STRATA; stratum++) {
                if (hasDirect(stratum, base, month)) {
                    float weight = (float) basket.weight[stratum];
                    sum = Real.plus(sum, Real.times(weight, direct(stratum, base, month)));
                }
            }
            return Real.over(sum, (float) weightOfDirect(base, month));
        }
    }

    /**
     * Float arithmetic on numbers that are not negative. No operation may answer NaN here, so the one
     * that would is seen beforehand, and "not a number" is held as -1f, which no price or index can be.
     */
    private static final class Real {
        private static final int NAN_BITS = 0x7fc00000;
        private static final int INFINITY_BITS = 0x7f800000;
        private static final int FRACTION_BITS = 23;
        private static final int GREATEST_EXPONENT = 127;
        private static final int LEAST_EXPONENT = -126;

        private static float nan() {
            return -1f;
        }

        private static boolean isNan(float x) {
            return x < 0f;
        }

        private static boolean isInfinite(float x) {
            return x > 3.4028235e38f;
        }

        static float plus(float a, float b) {
            if (isNan(a) || isNan(b)) {
                return nan();
            }
            return a + b;
        }

        static float times(float a, float b) {
            if (isNan(a) || isNan(b) || (a == 0f && isInfinite(b)) || (isInfinite(a) && b == 0f)) {
                return nan();
            }
            return a * b;
        }

        static float over(float a, float b) {
            if (isNan(a) || isNan(b) || (a == 0f && b == 0f) || (isInfinite(a) && isInfinite(b))) {
                return nan();
            }
            return a / b;
        }

        static int hundredths(float x) {
            return isNan(x) ? 0 : (int) (x * 100f + 0.5f);
        }

        /** Float.floatToIntBits by plain arithmetic: doubling and halving change no digit of a float. */
        static int bits(float x) {
            if (isNan(x)) {
                return NAN_BITS;
            }
            if (isInfinite(x)) {
                return INFINITY_BITS;
            }
            float fraction = x;
            int exponent = 0;
            for (; exponent < GREATEST_EXPONENT && fraction >= 2f; exponent++) {
                fraction = fraction / 2f;
            }
            for (; exponent > LEAST_EXPONENT && fraction < 1f; exponent--) {
                fraction = fraction * 2f;
            }
            // The leading 1 of a normal number raises the exponent's field by one; a subnormal has none.
            return ((exponent - LEAST_EXPONENT) << FRACTION_BITS) + (int) (fraction * 8388608f);
        }
    }
}
