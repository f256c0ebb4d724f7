import java.util.ArrayDeque;
import java.util.ArrayList;
import java.util.Deque;
import java.util.List;

/**
 * The sentences of the document that name a boundary case, one test each, with the sentence above it: the last value
 * that is taken and the first that is refused on either side, the empty and the full state, and that a refused call
 * has changed nothing. No object here is asked more than the 512 calls that the document promises.
 */
public final class BoundaryTests {
    private static final int ARGUMENT = -1;
    private static final int STATE = -2;
    private static final int LIMIT = -3;
    private static final int NONE = -9;
    private static final int ALWAYS = 4095;
    private static final int INFINITE = 0x7f800000;
    private static final int NOT_A_NUMBER = 0x7fc00000;
    private static final int LOWEST = Integer.MIN_VALUE;
    private static final int HIGHEST = Integer.MAX_VALUE;

    private static int wrong = 0;
    private static int asked = 0;

    private interface Start {
        PriceIndexCalculator make();
    }

    private interface Call {
        int on(PriceIndexCalculator c);
    }

    private interface CallOf {
        int on(PriceIndexCalculator c, int value);
    }

    private interface Probe {
        void ask(PriceIndexCalculator c, List<Integer> answers);
    }

    public static void main(String[] args) {
        description();
        texts();
        edits();
        errors();
        itemsAndPrices();
        replacements();
        settings();
        knownPrices();
        movementsAndIndices();
        System.out.println(asked + " answers asked, " + wrong + " not as due");
        if (wrong != 0) {
            System.exit(1);
        }
    }

    private static void description() {
        infinitePrices();
        greatestFloat();
        pricesDownToNothing();
        notANumber();
        weightZeroTimesInfinity();
        hundredthsAreCutOff();
        hundredthsBeyondInt();
        bitsAtTheEdges();
        seasonsComeRound();
        seasonSets();
        observedNeedsQuoteAndSeason();
        observedAtTheEdges();
        monthsAroundTheOverlap();
        firstAndLastOverlap();
        overlapPricesComeAndGo();
        newItemHasNoPrices();
        matchedNeedsBothMonths();
        movementOfNoneAndOne();
        knownFromTheFirstMonthOn();
        imputedToTheLastMonth();
        directIndexOfNoItem();
        chainOfNoMonthAndOfAll();
        aggregateOfWeightNothing();
    }

    private static void texts() {
        textOfNoQuotation();
        everyPrefix();
        everyCharacterInEachPlace();
        digitsOfNumbers();
        leadingZeros();
        rangesOfNumbers();
        firstFaultCounts();
        textThatIsFull();
        refusedImports();
    }

    private static void edits() {
        eightCanBeUndone();
        undoneEditsMakeRoom();
        eachEditIsOneStep();
        editsThatChangeNothing();
        theRestIsNoEdit();
        undoLeavesTheText();
    }

    private static void errors() {
        argumentBeforeState();
        argumentBeforeLimit();
        errorBeforeNone();
        noItemAtAll();
    }

    private static void itemsAndPrices() {
        newObject();
        addItem();
        twelveItems();
        setPrice();
        quotedPrice();
        appendCharacter();
        clearText();
        importPrices();
    }

    private static void replacements() {
        replaceItem();
        replaceItemOfOtherStratum();
        replaceItemTwice();
        replaceItemUnobserved();
        sixReplacements();
        endReplacement();
        replacementOf();
    }

    private static void settings() {
        setWeight();
        setFormula();
    }

    private static void knownPrices() {
        knownPriceBits();
        isImputed();
        imputedCount();
    }

    private static void movementsAndIndices() {
        matchedCount();
        movementBits();
        greatestRise();
        equalRises();
        directIndex();
        chainedIndex();
        drift();
        driftAroundTheInts();
        aggregateIndex();
        aggregateBits();
        undo();
    }

    // ---- what is asked

    private static void due(String what, int got, int want) {
        asked++;
        if (got != want) {
            wrong++;
            System.out.println(what + " answered " + got + ", due is " + want);
        }
    }

    private static void taken(String what, int got) {
        asked++;
        if (got == ARGUMENT) {
            wrong++;
            System.out.println(what + " was refused");
        }
    }

    /** Both objects are used up by this: some probes undo and set. */
    private static void same(String what, Start one, Start other, Probe[] probes) {
        for (Probe probe : probes) {
            List<Integer> answers = new ArrayList<>();
            List<Integer> others = new ArrayList<>();
            probe.ask(one.make(), answers);
            probe.ask(other.make(), others);
            asked++;
            if (!answers.equals(others)) {
                wrong++;
                System.out.println(what + " changed something:\n  " + answers + "\n  " + others);
            }
        }
    }

    /** A refused call answers its error, and again so, and its object answers as one that was never asked. */
    private static void refused(String what, Start start, int error, Call call) {
        same(what, start, () -> {
            PriceIndexCalculator c = start.make();
            due(what, call.on(c), error);
            due(what + ", again", call.on(c), error);
            return c;
        }, ALL_PROBES);
    }

    /** The last values taken on either side, the first refused on either side, and the farthest ones. */
    private static void range(String what, Start start, int least, int greatest, CallOf call) {
        taken(what + " " + least, call.on(start.make(), least));
        taken(what + " " + greatest, call.on(start.make(), greatest));
        for (int value : new int[] {least - 1, greatest + 1, LOWEST, HIGHEST}) {
            refused(what + " " + value, start, ARGUMENT, c -> call.on(c, value));
        }
    }

    private static int bits(float x) {
        return Float.floatToIntBits(x);
    }

    private static int hundredths(float x) {
        return (int) (x * 100f + 0.5f);
    }

    // ---- probes: what an object answers, in less than 350 calls each

    private static void quotes(PriceIndexCalculator c, List<Integer> answers) {
        answers.add(c.itemCount());
        for (int item = 0; item < 12; item++) {
            answers.add(c.replacementOf(item));
            for (int month = 0; month < 24; month++) {
                answers.add(c.quotedPrice(item, month));
            }
        }
    }

    private static void known(PriceIndexCalculator c, List<Integer> answers) {
        for (int cell = 0; cell < 12 * 24; cell++) {
            answers.add(c.knownPriceBits(cell / 24, cell % 24));
        }
    }

    private static void imputed(PriceIndexCalculator c, List<Integer> answers) {
        for (int cell = 0; cell < 12 * 24; cell++) {
            answers.add(c.isImputed(cell / 24, cell % 24));
        }
        for (int month = 0; month < 24; month++) {
            answers.add(c.imputedCount(month));
        }
    }

    private static void movements(PriceIndexCalculator c, List<Integer> answers) {
        for (int cell = 0; cell < 4 * 24; cell++) {
            answers.add(c.matchedCount(cell / 24, cell % 24, (cell + 1) % 24));
            answers.add(c.movementBits(cell / 24, cell % 24, (cell + 1) % 24));
            answers.add(c.greatestRise(cell / 24, cell % 24, (cell + 1) % 24));
        }
    }

    private static void indices(PriceIndexCalculator c, List<Integer> answers) {
        for (int cell = 0; cell < 4 * 24; cell++) {
            answers.add(c.directIndex(cell / 24, 0, cell % 24));
            answers.add(c.chainedIndex(cell / 24, 0, cell % 24));
            answers.add(c.drift(cell / 24, cell % 24, 23));
        }
    }

    private static void aggregates(PriceIndexCalculator c, List<Integer> answers) {
        for (int cell = 0; cell < 6 * 24; cell++) {
            answers.add(c.aggregateIndex(cell / 24, cell % 24));
            answers.add(c.aggregateBits(cell / 24, cell % 24));
        }
    }

    private static void set(PriceIndexCalculator c, List<Integer> answers) {
        for (int stratum = 0; stratum < 4; stratum++) {
            answers.add(c.setWeight(stratum, 9));
        }
        answers.add(c.setFormula(0));
    }

    /** What the buffer holds is told by where its import fails or by the prices that it sets. */
    private static void text(PriceIndexCalculator c, List<Integer> answers) {
        answers.add(c.importPrices());
        answers.add(c.appendCharacter(';'));
        answers.add(c.importPrices());
        quotes(c, answers);
        answers.add(c.clearText());
    }

    private static void undoneItems(PriceIndexCalculator c, List<Integer> answers) {
        for (int left = 0; left < 9; left++) {
            answers.add(c.undo());
            answers.add(c.itemCount());
            for (int item = 0; item < 12; item++) {
                answers.add(c.replacementOf(item));
                answers.add(c.quotedPrice(item, 0));
                answers.add(c.quotedPrice(item, 2));
            }
        }
    }

    /** Behind an undo there is room for an edit, so settings can be read by setting them. */
    private static void undoneSettings(PriceIndexCalculator c, List<Integer> answers) {
        for (int left = 0; left < 9; left++) {
            answers.add(c.undo());
            for (int stratum = 0; stratum < 4; stratum++) {
                answers.add(c.setWeight(stratum, 9));
                answers.add(c.undo());
            }
            answers.add(c.setFormula(0));
            answers.add(c.undo());
        }
    }

    /** All but undo and the text. */
    private static final Probe[] STATE_PROBES = {BoundaryTests::quotes, BoundaryTests::known, BoundaryTests::imputed,
        BoundaryTests::movements, BoundaryTests::indices, BoundaryTests::aggregates, BoundaryTests::set};
    private static final Probe[] UNDO_PROBES = {BoundaryTests::undoneItems, BoundaryTests::undoneSettings};
    private static final Probe[] ALL_PROBES = {BoundaryTests::quotes, BoundaryTests::known, BoundaryTests::imputed,
        BoundaryTests::movements, BoundaryTests::indices, BoundaryTests::aggregates, BoundaryTests::set,
        BoundaryTests::undoneItems, BoundaryTests::undoneSettings, BoundaryTests::text};

    // ---- objects to begin with

    private static PriceIndexCalculator withItems(int stratum, int... sizes) {
        PriceIndexCalculator c = new PriceIndexCalculator();
        for (int size : sizes) {
            c.addItem(stratum, size, ALWAYS);
        }
        return c;
    }

    /** Prices of one item from month 0 on; 0 is no price. */
    private static void prices(PriceIndexCalculator c, int item, int... prices) {
        for (int month = 0; month < prices.length; month++) {
            if (prices[month] != 0) {
                c.setPrice(item, month, prices[month]);
            }
        }
    }

    private static PriceIndexCalculator write(PriceIndexCalculator c, String text) {
        for (int i = 0; i < text.length(); i++) {
            c.appendCharacter(text.charAt(i));
        }
        return c;
    }

    private static PriceIndexCalculator empty() {
        return new PriceIndexCalculator();
    }

    /** Few edits, so that another one drops none of them. */
    private static PriceIndexCalculator small() {
        PriceIndexCalculator c = withItems(0, 1, 3);
        c.setPrice(0, 0, 100);
        c.setPrice(0, 1, 130);
        c.setPrice(1, 0, 200);
        c.setWeight(0, 40);
        return c;
    }

    /** Seven items in three strata, a replacement, half a text, more than eight edits; prices are worked out. */
    private static PriceIndexCalculator shop() {
        PriceIndexCalculator c = withItems(0, 1, 3, 7);
        c.addItem(1, 1000, ALWAYS);
        c.addItem(1, 1, ALWAYS);
        c.addItem(3, 2, 0x555);
        c.addItem(0, 5, ALWAYS);
        prices(c, 0, 100, 110, 121, 90, 95);
        prices(c, 1, 299, 0, 330, 401);
        prices(c, 2, 50, 60, 0, 77);
        prices(c, 3, 99999, 1, 500);
        prices(c, 4, 0, 31, 29, 0, 41);
        prices(c, 5, 12, 13, 14, 15, 16);
        prices(c, 6, 480, 0, 490, 520, 515);
        c.setFormula(1);
        c.setWeight(1, 60);
        c.replaceItem(1, 6, 2);
        c.setPrice(4, 23, 45);
        write(c, "0@0=5;1@2");
        c.aggregateBits(0, 5);
        return c;
    }

    /** All items, replacements, undos and characters that there can be. */
    private static PriceIndexCalculator full() {
        PriceIndexCalculator c = withItems(3, 1, 2, 3, 4, 5, 6, 7, 8, 9, 10, 11, 1000);
        for (int item = 0; item < 12; item++) {
            prices(c, item, 100 + item, 120 - item);
        }
        c.setFormula(2);
        c.setWeight(3, 100);
        for (int item = 0; item < 12; item += 2) {
            c.replaceItem(item + 1, item, 0);
        }
        return write(c, "0@0=1;1@1=2;2@2=3;3@3=4;4@4=5;5@5=6;6@6=7;7@7=8;8@8=9;9@9=0;");
    }

    private static final Start[] STARTS = {BoundaryTests::empty, BoundaryTests::shop, BoundaryTests::full};

    /**
     * Three items whose prices go from one to the other in turn, so that each month's movement is after / before,
     * and a fourth one that is quoted in month 0 alone, at 1.
     */
    private static PriceIndexCalculator ladder(int before, int after) {
        PriceIndexCalculator c = withItems(0, 1, 1, 1, 1);
        for (int month = 0; month + 1 < 24; month++) {
            c.setPrice(month % 3, month, before);
            c.setPrice(month % 3, month + 1, after);
        }
        c.setPrice(3, 0, 1);
        return c;
    }

    // ---- the description: floats

    // "A float may become infinite or not a number by this, without any special treatment."
    private static void infinitePrices() {
        PriceIndexCalculator c = ladder(1, 99999);
        float price = 1f;
        for (int month = 1; month <= 7; month++) {
            price = price * 99999f;
        }
        due("the last finite price", c.knownPriceBits(3, 7), bits(price));
        due("the first infinite price", c.knownPriceBits(3, 8), INFINITE);
        due("an infinite price is imputed on", c.knownPriceBits(3, 23), INFINITE);
        due("an infinite price is imputed", c.isImputed(3, 23), 1);
        due("an infinite price counts", c.imputedCount(8), 2);
        due("a direct index of it", c.directIndex(0, 0, 8), HIGHEST);
        due("an aggregate of it", c.aggregateBits(0, 8), INFINITE);
        due("an aggregate of it", c.aggregateIndex(0, 8), HIGHEST);
        due("something over infinity", c.directIndex(0, 8, 0), 0);
        due("something over infinity", c.aggregateBits(8, 0), bits(0f));
    }

    /** 2000 and 17228 / 10125 were searched for: they lead to the last float before infinity. */
    private static void greatestFloat() {
        PriceIndexCalculator c = ladder(1, 99999);
        c.setPrice(1, 8, 2000);
        c.setPrice(2, 8, 10125);
        c.setPrice(2, 9, 17228);
        due("the greatest float", c.knownPriceBits(3, 9), bits(Float.MAX_VALUE));
        due("it over itself", c.directIndex(0, 9, 9), 10000);
        due("it over itself", c.aggregateBits(9, 9), bits(100f));
        due("no drift", c.drift(0, 9, 9), 1000000);
        due("the first infinite price after it", c.knownPriceBits(3, 10), INFINITE);
    }

    private static void pricesDownToNothing() {
        PriceIndexCalculator c = ladder(99999, 1);
        float price = 1f;
        int last = 0;
        for (int month = 1; month < 24; month++) {
            price = price * (1f / 99999f);
            last = price > 0f ? month : last;
            due("a price down to nothing, month " + month, c.knownPriceBits(3, month), bits(price));
        }
        due("the last price above nothing", last, 9);
        due("the least float", c.knownPriceBits(3, 9), 1);
        due("nothing is a price still", c.knownPriceBits(3, 10), 0);
        due("nothing is a price still", c.isImputed(3, 10), 1);
    }

    private static void notANumber() {
        PriceIndexCalculator high = ladder(1, 99999);
        due("infinity over infinity", high.aggregateBits(8, 9), NOT_A_NUMBER);
        due("infinity over infinity, hundredths", high.aggregateIndex(8, 9), 0);
        due("infinity over infinity, of a stratum", high.directIndex(0, 8, 9), 0);
        due("drift of not a number", high.drift(0, 8, 8), 1000000 + 10000);
        PriceIndexCalculator down = ladder(99999, 1);
        down.setFormula(1);
        due("nothing over nothing", down.aggregateBits(10, 11), NOT_A_NUMBER);
        due("nothing over nothing, hundredths", down.directIndex(0, 10, 11), 0);
        down.setFormula(2);
        due("nothing over nothing, formula 2", down.aggregateBits(10, 11), NOT_A_NUMBER);
    }

    private static void weightZeroTimesInfinity() {
        PriceIndexCalculator c = ladder(1, 99999);
        c.addItem(1, 1, ALWAYS);
        c.setPrice(4, 0, 5);
        c.setWeight(0, 1);
        due("weight 1 times infinity", c.aggregateBits(0, 8), INFINITE);
        c.setWeight(0, 0);
        due("weight 0 times infinity", c.aggregateBits(0, 8), NOT_A_NUMBER);
        due("weight 0 times infinity, hundredths", c.aggregateIndex(0, 8), 0);
        due("weight 0 times not a number", c.aggregateBits(8, 9), NOT_A_NUMBER);
        due("weight 0 times a finite index", c.aggregateBits(0, 0), bits(100f));
        c.setWeight(1, 0);
        c.setWeight(2, 100);
        due("weights 0: no index, infinite or not", c.aggregateBits(0, 8), NONE);
    }

    // "the hundredths of a float x are (int) (x * 100f + 0.5f)"
    private static void hundredthsAreCutOff() {
        PriceIndexCalculator c = withItems(0, 1);
        prices(c, 0, 32, 1, 3, 99999, 3124, 3125, 3126, 20001, 5);
        due("312.5 hundredths", c.directIndex(0, 0, 1), 313);
        due("937.5 hundredths", c.directIndex(0, 0, 2), 938);
        due("312.4 hundredths", c.directIndex(0, 3, 4), 312);
        due("312.503 hundredths", c.directIndex(0, 3, 5), 313);
        due("0.1 hundredths", c.directIndex(0, 3, 1), 0);
        due("0.49998 hundredths", c.directIndex(0, 7, 1), 0);
        due("2.49988 hundredths", c.directIndex(0, 7, 8), 2);
        due("all of it", c.directIndex(0, 3, 3), 10000);
    }

    private static PriceIndexCalculator risenBy(int first, int second) {
        PriceIndexCalculator c = withItems(0, 1, 1);
        c.setPrice(0, 0, 1);
        c.setPrice(0, 1, first);
        c.setPrice(1, 1, 1);
        c.setPrice(1, 2, second);
        c.replaceItem(0, 1, 1);
        return c;
    }

    private static void hundredthsBeyondInt() {
        PriceIndexCalculator last = risenBy(1451, 148);
        due("the last rise within int", last.directIndex(0, 0, 2), 2147480064);
        due("the last rise within int, aggregate", last.aggregateIndex(0, 2), 2147480064);
        due("the last rise within int, chained", last.chainedIndex(0, 0, 2), hundredths(100f * 1451f * 148f));
        PriceIndexCalculator first = risenBy(71583, 3);
        due("the first rise beyond int", first.directIndex(0, 0, 2), HIGHEST);
        due("the first rise beyond int, aggregate", first.aggregateIndex(0, 2), HIGHEST);
        due("the first rise beyond int, chained", first.chainedIndex(0, 0, 2), HIGHEST);
        due("the bits know no such bound", first.movementBits(0, 0, 2), bits(214749f));
        due("the greatest rise", risenBy(99999, 99999).chainedIndex(0, 0, 2), HIGHEST);
    }

    // "the bits of x are Float.floatToIntBits(x)"
    private static void bitsAtTheEdges() {
        PriceIndexCalculator c = withItems(0, 1000, 1);
        for (int power = 0; power < 17; power++) {
            c.setPrice(1, power, 1 << power);
            due("bits of 2 to the " + power, c.knownPriceBits(1, power), (127 + power) << 23);
            c.setPrice(1, power, (1 << power) + 1);
            due("bits above 2 to the " + power, c.knownPriceBits(1, power), bits((1 << power) + 1f));
        }
        for (int price : new int[] {1, 124, 125, 126, 249, 250, 251, 499, 500, 501, 999, 1000, 1001}) {
            c.setPrice(0, 0, price);
            due("bits of thousandths " + price, c.knownPriceBits(0, 0), bits(price / 1000f));
        }
        for (int divisor : new int[] {2, 20, 100, 5000, 99999}) {
            PriceIndexCalculator down = ladder(divisor, 1);
            float price = 1f;
            for (int month = 1; month < 24; month++) {
                price = price * (1f / divisor);
                due("bits down by " + divisor + ", month " + month, down.knownPriceBits(3, month), bits(price));
            }
        }
        PriceIndexCalculator up = ladder(1, 47);
        float price = 1f;
        for (int month = 1; month < 24; month++) {
            price = price * 47f;
            due("bits up, month " + month, up.knownPriceBits(3, month), bits(price));
        }
    }

    // ---- the description: seasons, observed and effective prices

    // "An item is in season in a month m if bit m % 12 of its seasons is set."
    private static void seasonsComeRound() {
        for (int season = 0; season < 12; season++) {
            PriceIndexCalculator c = new PriceIndexCalculator();
            c.addItem(0, 1, 1 << season);
            for (int month = 0; month < 24; month++) {
                c.setPrice(0, month, 100 + month);
            }
            for (int month = 0; month < 24; month++) {
                boolean inSeason = month == season || month == season + 12;
                int told = month < season ? NONE : inSeason ? 0 : 1;
                due("season " + season + " in month " + month, c.isImputed(0, month), told);
                due("season " + season + " in month " + month, c.matchedCount(0, month, month), inSeason ? 1 : 0);
            }
            due("the season a year later", c.matchedCount(0, season, season + 12), 1);
            due("the season a year later", c.knownPriceBits(0, season + 12), bits(112f + season));
        }
    }

    // "a set of seasons, which is a bit set from 1 to 4095"
    private static void seasonSets() {
        for (int seasons : new int[] {1, 2, 2047, 2048, 2049, 4094, 4095, 0x555, 0xaaa}) {
            PriceIndexCalculator c = new PriceIndexCalculator();
            c.addItem(0, 1, seasons);
            for (int month = 0; month < 24; month++) {
                c.setPrice(0, month, 100);
                int observed = (seasons & 1 << month % 12) != 0 ? 1 : 0;
                due("seasons " + seasons + " in month " + month, c.matchedCount(0, month, month), observed);
            }
        }
    }

    // "The observed price of an item in a month exists if the item has a quoted price in this month and is in season"
    private static void observedNeedsQuoteAndSeason() {
        PriceIndexCalculator c = new PriceIndexCalculator();
        c.addItem(0, 1, 1);
        due("in season without a quote", c.matchedCount(0, 0, 0), 0);
        c.setPrice(0, 1, 5);
        due("a quote out of season", c.matchedCount(0, 1, 1), 0);
        due("a quote out of season is no known price", c.knownPriceBits(0, 1), NONE);
        due("a quote out of season is quoted", c.quotedPrice(0, 1), 5);
        c.setPrice(0, 0, 5);
        due("a quote in season", c.matchedCount(0, 0, 0), 1);
        c.setPrice(0, 0, 0);
        due("a quote removed", c.matchedCount(0, 0, 0), 0);
    }

    // "it is (float) (quoted price) / (float) (package size)"
    private static void observedAtTheEdges() {
        int[] edges = {1, 99999};
        int[] sizes = {1, 1000, 3, 999};
        PriceIndexCalculator c = withItems(0, sizes);
        for (int item = 0; item < sizes.length; item++) {
            for (int price : edges) {
                c.setPrice(item, 0, price);
                due("price " + price + " of size " + sizes[item], c.knownPriceBits(item, 0),
                    bits((float) price / (float) sizes[item]));
            }
        }
    }

    /** The old item at 7 and from 700 up by 10, the new one at 3 and from 300 up by 7, in all months. */
    private static PriceIndexCalculator replacedAt(int overlap) {
        PriceIndexCalculator c = withItems(0, 7, 3);
        for (int month = 0; month < 24; month++) {
            c.setPrice(0, month, 700 + 10 * month);
            c.setPrice(1, month, 300 + 7 * month);
        }
        due("overlap " + overlap, c.replaceItem(0, 1, overlap), 1);
        return c;
    }

    private static void monthsOfReplacement(int overlap) {
        PriceIndexCalculator c = replacedAt(overlap);
        float link = (700f + 10 * overlap) / 7f / ((300f + 7 * overlap) / 3f);
        for (int month = 0; month < 24; month++) {
            float own = (700f + 10 * month) / 7f;
            float linked = (300f + 7 * month) / 3f * link;
            due("overlap " + overlap + ", month " + month, c.knownPriceBits(0, month), bits(month > overlap ? linked : own));
            due("overlap " + overlap + ", month " + month, c.isImputed(0, month), 0);
        }
    }

    // "the effective price of an old item in a month after the overlap month"
    private static void monthsAroundTheOverlap() {
        monthsOfReplacement(1);
        monthsOfReplacement(11);
        monthsOfReplacement(12);
        monthsOfReplacement(22);
        int apart = 0;
        for (int price = 1; price < 40; price++) {
            float a = 3f / 7f;
            float b = price / 3f;
            PriceIndexCalculator c = withItems(0, 7, 3);
            c.setPrice(0, 4, 3);
            c.setPrice(1, 4, price);
            c.replaceItem(0, 1, 4);
            due("the overlap month itself has the old item's price", c.knownPriceBits(0, 4), bits(a));
            apart += b * (a / b) != a ? 1 : 0;
        }
        due("some prices tell the two apart", apart > 0 ? 1 : 0, 1);
    }

    private static void firstAndLastOverlap() {
        monthsOfReplacement(0);
        monthsOfReplacement(23);
    }

    // "exists if the observed prices of both items in the overlap month exist (..) and the observed price c of the
    // new item in the month exists"
    private static void overlapPricesComeAndGo() {
        PriceIndexCalculator c = replacedAt(5);
        due("all three exist", c.matchedCount(0, 6, 6), 1);
        c.setPrice(0, 5, 0);
        due("without the old item's overlap price", c.matchedCount(0, 6, 6), 0);
        due("without the old item's overlap price, before it", c.matchedCount(0, 4, 4), 1);
        due("without the old item's overlap price, at it", c.matchedCount(0, 5, 5), 0);
        c.setPrice(0, 5, 750);
        c.setPrice(1, 5, 0);
        due("without the new item's overlap price", c.matchedCount(0, 6, 6), 0);
        due("without the new item's overlap price, at it", c.matchedCount(0, 5, 5), 1);
        c.setPrice(1, 5, 335);
        c.setPrice(1, 6, 0);
        due("without the new item's price", c.matchedCount(0, 6, 6), 0);
        due("without the new item's price, a month later", c.matchedCount(0, 7, 7), 1);
        due("the old item's own price does not count", c.isImputed(0, 6), 1);
        c.setPrice(1, 6, 342);
        c.setPrice(0, 6, 0);
        due("the old item's own price is not needed", c.matchedCount(0, 6, 6), 1);
        due("the replacement stands", c.replacementOf(0), 1);

        PriceIndexCalculator season = withItems(0, 1);
        season.addItem(0, 1, 1);
        prices(season, 0, 10, 11);
        prices(season, 1, 20, 22);
        season.setPrice(1, 12, 30);
        season.replaceItem(0, 1, 0);
        due("the new item out of season", season.matchedCount(0, 1, 1), 0);
        due("the new item in season again", season.knownPriceBits(0, 12), bits(30f * (10f / 20f)));
    }

    // "A new item has no effective prices."  "A new item has none." (known prices)
    private static void newItemHasNoPrices() {
        PriceIndexCalculator c = replacedAt(5);
        for (int month = 0; month < 24; month++) {
            due("a new item's known price, month " + month, c.knownPriceBits(1, month), NONE);
            due("a new item is not matched, month " + month, c.matchedCount(0, month, month), 1);
        }
        c.endReplacement(1);
        due("a new item no longer", c.knownPriceBits(1, 0), bits(300f / 3f));
        due("a new item no longer", c.matchedCount(0, 0, 23), 2);
    }

    // ---- the description: movements, known prices and indices

    // "An item is matched in two months if its effective prices exist in both of them."
    private static void matchedNeedsBothMonths() {
        PriceIndexCalculator c = withItems(0, 1);
        due("in neither", c.matchedCount(0, 0, 23), 0);
        c.setPrice(0, 0, 5);
        due("in the first", c.matchedCount(0, 0, 23), 0);
        due("imputed in the second", c.isImputed(0, 23), 1);
        c.setPrice(0, 23, 6);
        due("in both", c.matchedCount(0, 0, 23), 1);
        due("in both, backwards", c.matchedCount(0, 23, 0), 1);
        c.setPrice(0, 0, 0);
        due("in the second", c.matchedCount(0, 0, 23), 0);
    }

    // "If there is no matched item, the movement is 1f."
    private static void movementOfNoneAndOne() {
        for (int formula = 0; formula <= 2; formula++) {
            PriceIndexCalculator c = withItems(0, 3, 7);
            c.setFormula(formula);
            due("no item matched, formula " + formula, c.movementBits(0, 0, 1), bits(1f));
            due("no item at all, formula " + formula, c.movementBits(1, 0, 1), bits(1f));
            c.setPrice(0, 0, 10);
            c.setPrice(1, 1, 10);
            due("prices but none matched, formula " + formula, c.movementBits(0, 0, 1), bits(1f));
            c.setPrice(0, 1, 17);
            float p = 10f / 3f;
            float q = 17f / 3f;
            float one = formula == 0 ? q / p : formula == 1 ? q / p / 1f : 1f / (p / q);
            due("one item matched, formula " + formula, c.movementBits(0, 0, 1), bits(one));
            c.setPrice(0, 0, 0);
            due("none matched again, formula " + formula, c.movementBits(0, 0, 1), bits(1f));
        }
    }

    // "(So an item has known prices from the first month on in which it has an effective price."
    private static void knownFromTheFirstMonthOn() {
        for (int first = 0; first < 24; first++) {
            PriceIndexCalculator c = withItems(0, 2, 1);
            prices(c, 1, 1, 2, 3, 4, 5);
            c.setPrice(0, first, 9);
            for (int month = 0; month < 24; month++) {
                int told = month < first ? NONE : month == first ? 0 : 1;
                due("first price in month " + first + ", month " + month, c.isImputed(0, month), told);
            }
            due("the first known price", c.knownPriceBits(0, first), bits(9f / 2f));
        }
        due("never priced", withItems(0, 1).knownPriceBits(0, 23), NONE);
    }

    // "the known price in the month before, multiplied by the movement of the stratum"
    private static void imputedToTheLastMonth() {
        PriceIndexCalculator c = withItems(0, 1, 1);
        c.setPrice(0, 21, 7);
        prices(c, 1, 2);
        c.setPrice(1, 21, 3);
        c.setPrice(1, 22, 5);
        c.setPrice(1, 23, 11);
        float known = 7f * (5f / 3f);
        due("imputed in month 22", c.knownPriceBits(0, 22), bits(known));
        due("imputed in month 23", c.knownPriceBits(0, 23), bits(known * (11f / 5f)));
        due("imputed by 1 where none is matched", c.knownPriceBits(1, 20), bits(2f));
        due("month 0 has no month before", c.knownPriceBits(0, 0), NONE);
    }

    // "It does not exist if no item has known prices in both months."
    private static void directIndexOfNoItem() {
        PriceIndexCalculator c = withItems(0, 1, 1);
        due("no prices", c.directIndex(0, 0, 0), NONE);
        c.setPrice(0, 23, 5);
        due("one month before the first price", c.directIndex(0, 22, 23), NONE);
        due("one month before the first price, backwards", c.directIndex(0, 23, 22), NONE);
        due("the month of the only price", c.directIndex(0, 23, 23), 10000);
        c.setPrice(1, 22, 5);
        due("one item in both", c.directIndex(0, 22, 23), 10000);
        due("none of stratum 1", c.directIndex(1, 22, 23), NONE);
    }

    // "The chained index for a base month b and a month m (not before b) is 100f, multiplied by .."
    private static void chainOfNoMonthAndOfAll() {
        PriceIndexCalculator c = withItems(0, 1);
        float index = 100f;
        for (int month = 0; month < 24; month++) {
            c.setPrice(0, month, 1000 + month * month);
        }
        for (int month = 0; month < 24; month++) {
            due("a chain of no month", c.chainedIndex(0, month, month), 10000);
        }
        for (int month = 1; month < 24; month++) {
            index = index * ((1000f + month * month) / (1000f + (month - 1) * (month - 1)));
            due("a chain to month " + month, c.chainedIndex(0, 0, month), hundredths(index));
        }
        due("the last link", c.chainedIndex(0, 22, 23), hundredths(100f * (1529f / 1484f)));
        due("a chain without prices", c.chainedIndex(1, 0, 23), 10000);
    }

    // "It does not exist if this sum of weights is 0."
    private static void aggregateOfWeightNothing() {
        PriceIndexCalculator c = withItems(0, 1);
        c.addItem(1, 1, ALWAYS);
        prices(c, 0, 10, 12);
        due("one stratum", c.aggregateIndex(0, 1), 12000);
        c.setWeight(0, 1);
        due("weight 1", c.aggregateIndex(0, 1), 12000);
        due("weight 1", c.aggregateBits(0, 1), bits(1f * (12f / 10f * 100f) / 1f));
        c.setWeight(0, 0);
        due("weight 0, others without an index", c.aggregateIndex(0, 1), NONE);
        due("weight 0, others without an index", c.aggregateBits(0, 1), NONE);
        c.setPrice(1, 1, 5);
        due("another index in one month only", c.aggregateIndex(0, 1), NONE);
        due("another index from then on", c.aggregateIndex(1, 1), 10000);
        c.setWeight(0, 100);
        for (int stratum = 1; stratum < 4; stratum++) {
            c.setWeight(stratum, 0);
        }
        due("weight 100", c.aggregateBits(0, 1), bits(100f * (12f / 10f * 100f) / 100f));

        PriceIndexCalculator four = new PriceIndexCalculator();
        float sum = 0f;
        for (int stratum = 0; stratum < 4; stratum++) {
            four.addItem(stratum, 1, ALWAYS);
            four.setWeight(stratum, 100);
            prices(four, stratum, 7, 10 + stratum);
            sum = sum + 100f * ((10f + stratum) / 7f * 100f);
        }
        due("all weights 100", four.aggregateBits(0, 1), bits(sum / 400f));
    }

    // ---- the description: the text

    private static PriceIndexCalculator priced(int items) {
        PriceIndexCalculator c = new PriceIndexCalculator();
        for (int item = 0; item < items; item++) {
            c.addItem(0, 1, ALWAYS);
        }
        for (int item = 0; item < items; item++) {
            c.setPrice(item, 0, 70 + item);
        }
        return c;
    }

    private static void taken(int items, String text, int quotations) {
        PriceIndexCalculator c = write(priced(items), text);
        due("import of " + text, c.importPrices(), quotations);
        due("the buffer is empty behind " + text, c.clearText(), 0);
    }

    private static void fault(int items, String text, int offset) {
        refused("import of " + text, () -> write(priced(items), text), -10 - offset, c -> c.importPrices());
        due("the buffer is kept behind " + text, failed(items, text).clearText(), text.length());
    }

    private static PriceIndexCalculator failed(int items, String text) {
        PriceIndexCalculator c = write(priced(items), text);
        c.importPrices();
        return c;
    }

    // "The text is a sequence of one or more quotations"
    private static void textOfNoQuotation() {
        fault(0, "", 0);
        fault(1, "", 0);
        fault(12, "", 0);
        taken(1, "0@0=1;", 1);
        taken(1, "0@0=1;0@0=1;", 2);
    }

    // "if the text ends where more is needed, it is the length of the text"
    private static void everyPrefix() {
        String text = "11@23=99999;0@0=0;10@9=10000;";
        int quotations = 0;
        for (int length = 0; length <= text.length(); length++) {
            String prefix = text.substring(0, length);
            if (prefix.endsWith(";")) {
                quotations++;
                taken(12, prefix, quotations);
            } else {
                fault(12, prefix, length);
            }
        }
        due("three quotations", quotations, 3);
    }

    /** The answer to "1@1=1;" with one character changed, for two items. */
    private static int dueToChange(int at, char sign) {
        boolean digit = sign >= '0' && sign <= '9';
        switch (at) {
            case 0: return sign == '0' || sign == '1' ? 1 : -10;
            case 1: return sign == '@' ? 1 : digit ? -10 : -11;
            case 2: return digit ? 1 : -12;
            case 3: return sign == '=' ? 1 : digit ? -12 : -13;
            case 4: return digit ? 1 : -14;
            default: return sign == ';' ? 1 : digit ? -16 : -15;
        }
    }

    // "the 0-based offset of the first character that is not allowed where it stands"  "There are no spaces."
    private static void everyCharacterInEachPlace() {
        for (int at = 0; at < 6; at++) {
            for (int code = 0; code < 256; code++) {
                StringBuilder text = new StringBuilder("1@1=1;");
                text.setCharAt(at, (char) code);
                PriceIndexCalculator c = write(withItems(0, 1, 1), text.toString());
                int due = dueToChange(at, (char) code);
                due("code " + code + " at " + at, c.importPrices(), due);
                due("the buffer with code " + code + " at " + at, c.clearText(), due > 0 ? 0 : 6);
            }
        }
        for (int code = 0; code < 256; code++) {
            if (code != '0' && code != '1') {
                PriceIndexCalculator c = write(withItems(0, 1, 1), "1@1=1;" + (char) code);
                due("code " + code + " behind a quotation", c.importPrices(), -16);
            }
        }
        String text = "1@1=1;1@2=2;";
        for (int at = 0; at <= text.length(); at++) {
            PriceIndexCalculator c = write(withItems(0, 1, 1), text.substring(0, at) + " " + text.substring(at));
            due("a space at " + at, c.importPrices(), -10 - at);
        }
    }

    // "maximal runs of 1 to 5 digits"
    private static void digitsOfNumbers() {
        fault(2, "@0=1;", 0);
        fault(2, "0@=1;", 2);
        fault(2, "0@0=;", 4);
        taken(2, "0@0=99999;", 1);
        fault(2, "0@0=100000;", 4);
        fault(2, "0@0=999990;", 4);
        fault(2, "0@0=000001;", 4);
        fault(2, "10000@0=1;", 0);
        fault(2, "100000@0=1;", 0);
        fault(2, "0@10000=1;", 2);
        fault(2, "0@100000=1;", 2);
        fault(2, "0@0=4294967297;", 4);
        fault(2, "4294967296@0=1;", 0);
        fault(2, "0@4294967297=1;", 2);
        fault(2, "0@0=18446744073709551617;", 4);
    }

    // "which do not begin with 0 unless they are just 0"
    private static void leadingZeros() {
        taken(2, "0@0=0;", 1);
        fault(2, "00@0=1;", 0);
        fault(2, "01@0=1;", 0);
        fault(2, "0@00=1;", 2);
        fault(2, "0@01=1;", 2);
        fault(2, "0@0=00;", 4);
        fault(2, "0@0=01;", 4);
        fault(2, "0@0=00000;", 4);
        taken(2, "0@10=10;", 1);
        taken(2, "0@20=10000;", 1);
    }

    // "The item must exist, the month is 0 to 23, and the price is 0 to 99999, where 0 removes the quoted price."
    private static void rangesOfNumbers() {
        fault(0, "0@0=1;", 0);
        taken(1, "0@0=1;", 1);
        fault(1, "1@0=1;", 0);
        taken(10, "9@0=1;", 1);
        fault(10, "10@0=1;", 0);
        taken(11, "10@0=1;", 1);
        fault(11, "11@0=1;", 0);
        taken(12, "11@0=1;", 1);
        fault(12, "12@0=1;", 0);
        fault(12, "99999@0=1;", 0);
        taken(1, "0@23=1;", 1);
        fault(1, "0@24=1;", 2);
        fault(1, "0@99999=1;", 2);
        fault(1, "0@-1=1;", 2);
        fault(1, "0@0=-1;", 4);
        PriceIndexCalculator c = write(priced(12), "0@0=0;11@23=1;11@0=99999;5@1=0;");
        due("the edges", c.importPrices(), 4);
        due("price 0 removes", c.quotedPrice(0, 0), 0);
        due("price 0 removes", c.knownPriceBits(0, 23), NONE);
        due("price 1", c.quotedPrice(11, 23), 1);
        due("price 99999", c.quotedPrice(11, 0), 99999);
        due("price 0 where there is none", c.quotedPrice(5, 1), 0);
    }

    // "The error offset is the 0-based offset of the first character that is not allowed where it stands, or, for a
    // number that is out of its range or does not have the required form, of the first character of this number"
    private static void firstFaultCounts() {
        fault(2, "2", 0);
        fault(2, "0@24", 2);
        fault(2, "0@0=100000", 4);
        fault(2, "0@0=00", 4);
        fault(2, "2x", 0);
        fault(2, "0@24x", 2);
        fault(2, "2@24=100000;", 0);
        fault(2, "0@24=100000;", 2);
        fault(2, "0x24=100000;", 1);
        fault(2, "0@0=5;2@0=1;", 6);
        fault(2, "0@0=5;0@24=1;", 8);
        fault(2, "0@0=5;0@0=05;", 10);
        fault(2, "0@0=5;;", 6);
        fault(2, "0@0=5;0@0=6;0@0=7", 17);
        fault(2, "0@0=5;0@0=6;0@0=7x", 17);
    }

    // "Prices can be imported from a text buffer of at most 60 characters."
    private static void textThatIsFull() {
        String ten = "0@0=1;0@1=2;0@2=3;0@3=4;0@4=5;0@5=6;0@6=7;0@7=8;0@8=9;0@9=1;";
        due("the text fills the buffer", ten.length(), 60);
        taken(1, ten, 10);
        PriceIndexCalculator c = write(priced(1), ten);
        due("the buffer is full", c.appendCharacter('0'), LIMIT);
        due("the refused character is not read", c.importPrices(), 10);
        for (int month = 0; month < 10; month++) {
            due("full text, month " + month, c.quotedPrice(0, month), month == 9 ? 1 : month + 1);
        }
        fault(1, ten.substring(0, 59) + "2", 60);
        fault(1, ten.substring(0, 59) + " ", 59);
        fault(1, ten.substring(0, 54) + "012345", 54);
        fault(1, "1".repeat(60), 0);
        fault(1, "0".repeat(60), 0);
        fault(1, "0@0=" + "1".repeat(56), 4);
        fault(1, ";".repeat(60), 0);
        taken(12, "10@10=10000;10@11=99999;11@12=12345;11@20=54321;11@21=10001;", 5);
    }

    // "(no price changes, and the buffer is kept then)"
    private static void refusedImports() {
        fault(3, "0@0=1;1@0=2;2@0=3;3@0=4;", 18);
        PriceIndexCalculator c = write(priced(1), "0@0=5;0@1");
        due("an import in error", c.importPrices(), -19);
        due("the price before the error", c.quotedPrice(0, 0), 70);
        due("the buffer goes on", c.appendCharacter('='), 10);
        write(c, "6;");
        due("the text is whole now", c.importPrices(), 2);
        due("the first price", c.quotedPrice(0, 0), 5);
        due("the second price", c.quotedPrice(0, 1), 6);
        due("the text is gone", c.importPrices(), -10);
        PriceIndexCalculator late = write(empty(), "0@0=5;");
        due("an item too early", late.importPrices(), -10);
        late.addItem(0, 1, 1);
        due("the item exists now", late.importPrices(), 1);
        PriceIndexCalculator undone = write(priced(1), "0@0=5;");
        undone.undo();
        undone.undo();
        due("the item was undone", undone.importPrices(), -10);
    }

    // ---- the description: edits

    // "The last 8 edits can be undone."
    private static void eightCanBeUndone() {
        for (int edits = 0; edits <= 20; edits++) {
            PriceIndexCalculator c = new PriceIndexCalculator();
            for (int weight = 1; weight <= edits; weight++) {
                c.setWeight(0, 25 + weight);
            }
            int left = Math.min(edits, 8);
            for (int undone = 1; undone <= left; undone++) {
                due(edits + " edits, undo " + undone, c.undo(), left - undone);
            }
            due(edits + " edits, one undo too many", c.undo(), STATE);
            due(edits + " edits, undone to", c.setWeight(0, 1), 25 + edits - left);
        }
    }

    // "as they were before the latest edit that has not been undone"
    private static void undoneEditsMakeRoom() {
        for (int first = 0; first <= 17; first++) {
            for (int undone = 0; undone <= 8 && undone <= first; undone++) {
                for (int second = 0; second <= 9; second++) {
                    editUndoEdit(first, undone, second);
                }
            }
        }
    }

    private static void editUndoEdit(int first, int undone, int second) {
        PriceIndexCalculator c = new PriceIndexCalculator();
        Deque<Integer> before = new ArrayDeque<>();
        int weight = 25;
        for (int step = 0; step < first + undone + second; step++) {
            if (step >= first && step < first + undone) {
                weight = before.pop();
                due("undo in between", c.undo(), before.size());
            } else {
                before.push(weight);
                due("an edit", c.setWeight(0, 30 + step), weight);
                weight = 30 + step;
            }
            if (before.size() > 8) {
                before.removeLast();
            }
        }
        String what = first + " edits, " + undone + " undone, " + second + " edits";
        while (!before.isEmpty()) {
            weight = before.pop();
            due(what, c.undo(), before.size());
        }
        due(what, c.undo(), STATE);
        due(what, c.setWeight(0, 0), weight);
    }

    // "The successful calls of addItem, setPrice, importPrices, replaceItem, endReplacement, setWeight and setFormula
    // are edits. undo() restores items, prices, replacements, weights and the formula"
    private static void eachEditIsOneStep() {
        undoneIs("addItem", c -> c.addItem(2, 3, 7), 2);
        undoneIs("setPrice", c -> c.setPrice(1, 2, 9), 0);
        undoneIs("setPrice 0", c -> c.setPrice(1, 0, 0), 200);
        undoneIs("replaceItem", c -> c.replaceItem(1, 0, 0), 1);
        undoneIs("setWeight", c -> c.setWeight(3, 0), 25);
        undoneIs("setFormula", c -> c.setFormula(2), 0);
        Start linked = () -> {
            PriceIndexCalculator c = small();
            c.replaceItem(0, 1, 0);
            return c;
        };
        undoneIs("endReplacement", linked, c -> c.endReplacement(1), 0);
        Start writing = () -> write(small(), "0@0=1;0@2=5;1@0=0;1@23=7;");
        Start written = () -> {
            PriceIndexCalculator c = writing.make();
            due("importPrices", c.importPrices(), 4);
            due("importPrices, undone as one", c.undo(), 6);
            return c;
        };
        same("importPrices and undo", writing, written, STATE_PROBES);
        same("importPrices and undo", writing, written, UNDO_PROBES);
        overlapIsRestored();
    }

    private static void overlapIsRestored() {
        PriceIndexCalculator c = withItems(0, 1, 1);
        prices(c, 0, 10, 20, 30, 40);
        prices(c, 1, 50, 60, 70, 80);
        c.replaceItem(0, 1, 0);
        c.endReplacement(0);
        c.replaceItem(0, 1, 2);
        due("the second overlap", c.knownPriceBits(0, 1), bits(20f));
        c.undo();
        c.undo();
        due("the first overlap again", c.knownPriceBits(0, 1), bits(60f * (10f / 50f)));
        due("the first overlap again", c.knownPriceBits(0, 3), bits(80f * (10f / 50f)));
    }

    private static void undoneIs(String what, Call edit, int answer) {
        undoneIs(what, BoundaryTests::small, edit, answer);
    }

    private static void undoneIs(String what, Start start, Call edit, int answer) {
        same(what + " and undo", start, () -> {
            PriceIndexCalculator c = start.make();
            due(what, edit.on(c), answer);
            c.aggregateBits(0, 1);
            c.undo();
            return c;
        }, ALL_PROBES);
    }

    // "The successful calls of .. are edits": a successful one that changes nothing is an edit too
    private static void editsThatChangeNothing() {
        fillsTheUndos("no price removed", c -> c.setPrice(1, 5, 0), 0);
        fillsTheUndos("the same price", c -> c.setPrice(0, 1, 130), 130);
        fillsTheUndos("the same weight", c -> c.setWeight(0, 40), 40);
        fillsTheUndos("the first weight", c -> c.setWeight(3, 25), 25);
        fillsTheUndos("the same formula", c -> c.setFormula(0), 0);
        fillsTheUndos("no price removed by a text", c -> write(c, "1@5=0;").importPrices(), 1);
        fillsTheUndos("the same prices by a text", c -> write(c, "0@0=100;0@1=130;1@0=200;").importPrices(), 3);
        fillsTheUndos("a price and back by a text", c -> write(c, "0@0=7;0@0=100;").importPrices(), 2);
        eachOfTheEmptyEditsIsUndone();
    }

    /** Eight of them drop every edit before them, and each of them is undone by itself. */
    private static void fillsTheUndos(String what, Call empty, int answer) {
        PriceIndexCalculator c = small();
        for (int n = 1; n <= 8; n++) {
            due(what, empty.on(c), answer);
        }
        for (int left = 7; left >= 0; left--) {
            due(what + ", undone", c.undo(), left);
        }
        due(what + ", none before it", c.undo(), STATE);
        same(what, BoundaryTests::small, () -> {
            PriceIndexCalculator edited = small();
            empty.on(edited);
            return edited;
        }, STATE_PROBES);
        same(what + ", undone", BoundaryTests::small, () -> {
            PriceIndexCalculator edited = small();
            empty.on(edited);
            edited.undo();
            return edited;
        }, ALL_PROBES);
    }

    private static void eachOfTheEmptyEditsIsUndone() {
        PriceIndexCalculator c = withItems(0, 1);
        due("setPrice 0 where there is none", c.setPrice(0, 0, 0), 0);
        due("setWeight to the same", c.setWeight(0, 25), 25);
        due("setFormula to the same", c.setFormula(0), 0);
        write(c, "0@0=0;");
        due("import of no change", c.importPrices(), 1);
        due("undo of the import", c.undo(), 4);
        due("undo of setFormula", c.undo(), 3);
        due("undo of setWeight", c.undo(), 2);
        due("undo of setPrice", c.undo(), 1);
        due("the item is there", c.itemCount(), 1);
    }

    private static void theRestIsNoEdit() {
        Call[] questions = {c -> c.itemCount(), c -> c.quotedPrice(0, 0), c -> c.replacementOf(0),
            c -> c.knownPriceBits(0, 0), c -> c.isImputed(0, 0), c -> c.imputedCount(0), c -> c.matchedCount(0, 0, 1),
            c -> c.movementBits(0, 0, 1), c -> c.greatestRise(0, 0, 1), c -> c.directIndex(0, 0, 1),
            c -> c.chainedIndex(0, 0, 1), c -> c.drift(0, 0, 1), c -> c.aggregateIndex(0, 1),
            c -> c.aggregateBits(0, 1)};
        for (int n = 0; n < questions.length; n++) {
            Call question = questions[n];
            for (Start start : STARTS) {
                same("question " + n, start, () -> {
                    PriceIndexCalculator c = start.make();
                    question.on(c);
                    return c;
                }, ALL_PROBES);
            }
        }
        Start written = () -> {
            PriceIndexCalculator c = small();
            c.clearText();
            c.appendCharacter('0');
            c.clearText();
            return c;
        };
        same("clearText and appendCharacter", BoundaryTests::small, written, ALL_PROBES);
        PriceIndexCalculator c = small();
        due("an undo", c.undo(), 5);
        due("an undo is no edit", c.undo(), 4);
    }

    // "it does not affect the text buffer"
    private static void undoLeavesTheText() {
        PriceIndexCalculator c = write(priced(1), "0@0=");
        c.setPrice(0, 0, 3);
        write(c, "5");
        c.undo();
        due("a text written round an edit", c.appendCharacter(';'), 6);
        due("a text written round an edit", c.importPrices(), 1);
        due("its price", c.quotedPrice(0, 0), 5);
        c.undo();
        due("an import undone leaves the buffer empty", c.clearText(), 0);
        due("an import undone", c.quotedPrice(0, 0), 70);
        PriceIndexCalculator full = full();
        full.undo();
        due("a full buffer stays full", full.appendCharacter('0'), LIMIT);
        due("a full buffer stays full", full.clearText(), 60);
        full.undo();
        due("an emptied buffer stays empty", full.clearText(), 0);
    }

    // ---- the description: which error goes before which

    // "INVALID_ARGUMENT is returned rather than INVALID_STATE"
    private static void argumentBeforeState() {
        refused("linked and the same", BoundaryTests::shop, ARGUMENT, c -> c.replaceItem(1, 1, 2));
        refused("linked and month 24", BoundaryTests::shop, ARGUMENT, c -> c.replaceItem(1, 6, 24));
        refused("linked and no such new item", BoundaryTests::shop, ARGUMENT, c -> c.replaceItem(1, 7, 2));
        refused("no such old item and linked", BoundaryTests::shop, ARGUMENT, c -> c.replaceItem(-1, 6, 2));
        refused("other stratum and month -1", BoundaryTests::shop, ARGUMENT, c -> c.replaceItem(0, 3, -1));
        refused("unobserved and the same", BoundaryTests::shop, ARGUMENT, c -> c.replaceItem(4, 4, 3));
        refused("two states at once", BoundaryTests::shop, STATE, c -> c.replaceItem(1, 3, 1));
        refused("no such item, linked in none", BoundaryTests::small, ARGUMENT, c -> c.endReplacement(2));
    }

    // "INVALID_STATE rather than LIMIT_REACHED": no call has both, so the argument goes before the limit
    private static void argumentBeforeLimit() {
        refused("full and stratum 4", BoundaryTests::full, ARGUMENT, c -> c.addItem(4, 1, 1));
        refused("full and size 0", BoundaryTests::full, ARGUMENT, c -> c.addItem(0, 0, 1));
        refused("full and seasons 4096", BoundaryTests::full, ARGUMENT, c -> c.addItem(0, 1, 4096));
        refused("full and code 256", BoundaryTests::full, ARGUMENT, c -> c.appendCharacter(256));
        refused("full and code -1", BoundaryTests::full, ARGUMENT, c -> c.appendCharacter(-1));
        refused("full", BoundaryTests::full, LIMIT, c -> c.addItem(3, 1000, 4095));
        refused("full", BoundaryTests::full, LIMIT, c -> c.appendCharacter(255));
    }

    // "NONE is returned only if no error applies."
    private static void errorBeforeNone() {
        PriceIndexCalculator c = withItems(0, 1);
        due("no known price", c.knownPriceBits(0, 0), NONE);
        due("no known price, month 24", c.knownPriceBits(0, 24), ARGUMENT);
        due("no known price, item 1", c.knownPriceBits(1, 0), ARGUMENT);
        due("not imputed", c.isImputed(0, 23), NONE);
        due("not imputed, month -1", c.isImputed(0, -1), ARGUMENT);
        due("no rise", c.greatestRise(0, 0, 1), NONE);
        due("no rise, month 24", c.greatestRise(0, 24, 1), ARGUMENT);
        due("no direct index", c.directIndex(0, 1, 0), NONE);
        due("no direct index, stratum 4", c.directIndex(4, 1, 0), ARGUMENT);
        due("no drift", c.drift(0, 0, 1), NONE);
        due("no drift, month before base", c.drift(0, 1, 0), ARGUMENT);
        due("no aggregate", c.aggregateIndex(0, 1), NONE);
        due("no aggregate, month 24", c.aggregateIndex(0, 24), ARGUMENT);
        due("no aggregate, bits", c.aggregateBits(0, 1), NONE);
        due("no aggregate, bits, base -1", c.aggregateBits(-1, 0), ARGUMENT);
        due("not replaced", c.replacementOf(0), NONE);
        due("no such item", c.replacementOf(1), ARGUMENT);
    }

    private static void noItemAtAll() {
        Start start = BoundaryTests::empty;
        refused("no item: setPrice", start, ARGUMENT, c -> c.setPrice(0, 0, 1));
        refused("no item: quotedPrice", start, ARGUMENT, c -> c.quotedPrice(0, 0));
        refused("no item: replaceItem", start, ARGUMENT, c -> c.replaceItem(0, 1, 0));
        refused("no item: endReplacement", start, ARGUMENT, c -> c.endReplacement(0));
        refused("no item: replacementOf", start, ARGUMENT, c -> c.replacementOf(0));
        refused("no item: knownPriceBits", start, ARGUMENT, c -> c.knownPriceBits(0, 0));
        refused("no item: isImputed", start, ARGUMENT, c -> c.isImputed(0, 0));
        Start undone = () -> {
            PriceIndexCalculator c = withItems(0, 1);
            c.setPrice(0, 0, 5);
            c.undo();
            c.undo();
            return c;
        };
        refused("item undone: setPrice", undone, ARGUMENT, c -> c.setPrice(0, 0, 1));
        refused("item undone: quotedPrice", undone, ARGUMENT, c -> c.quotedPrice(0, 0));
        refused("item undone: knownPriceBits", undone, ARGUMENT, c -> c.knownPriceBits(0, 0));
        refused("item undone: undo", undone, STATE, c -> c.undo());
        same("item undone", BoundaryTests::empty, undone, ALL_PROBES);
    }

    // ---- promise 1

    // "No items, weights 25, formula 0, an empty text buffer, nothing to undo."
    private static void newObject() {
        due("1 no items", empty().itemCount(), 0);
        due("1 nothing to undo", empty().undo(), STATE);
        due("1 an empty text", empty().clearText(), 0);
        due("1 nothing to import", empty().importPrices(), -10);
        due("1 the first character", empty().appendCharacter('0'), 1);
        for (int stratum = 0; stratum < 4; stratum++) {
            due("1 weight " + stratum, empty().setWeight(stratum, 0), 25);
        }
        due("1 formula", empty().setFormula(2), 0);
        for (int month = 0; month < 24; month++) {
            due("1 nothing imputed", empty().imputedCount(month), 0);
            due("1 no aggregate", empty().aggregateIndex(month, month), NONE);
        }
    }

    // ---- promises 2 and 3

    private static void addItem() {
        for (Start start : STARTS) {
            range("2 stratum", start, 0, 3, (c, value) -> c.addItem(value, 1, 1));
            range("2 size", start, 1, 1000, (c, value) -> c.addItem(0, value, 1));
            range("2 seasons", start, 1, 4095, (c, value) -> c.addItem(0, 1, value));
        }
        PriceIndexCalculator c = new PriceIndexCalculator();
        due("2 least arguments", c.addItem(0, 1, 1), 0);
        due("2 greatest arguments", c.addItem(3, 1000, 4095), 1);
        c.setPrice(0, 12, 7);
        c.setPrice(1, 23, 7);
        due("2 least stratum, size and season", c.knownPriceBits(0, 12), bits(7f));
        due("2 greatest stratum", c.matchedCount(3, 23, 23), 1);
        due("2 greatest size and season", c.knownPriceBits(1, 23), bits(7f / 1000f));
    }

    // "Adds an item without quoted prices."  "LIMIT_REACHED if there are 12 items"
    private static void twelveItems() {
        PriceIndexCalculator c = new PriceIndexCalculator();
        for (int item = 0; item < 12; item++) {
            due("3 before item " + item, c.itemCount(), item);
            due("2 item " + item, c.addItem(item % 4, item + 1, ALWAYS), item);
            for (int month = 0; month < 24; month++) {
                due("2 no price of item " + item, c.quotedPrice(item, month), 0);
            }
        }
        due("3 twelve", c.itemCount(), 12);
        due("2 a thirteenth", c.addItem(0, 1, 1), LIMIT);
        due("3 twelve still", c.itemCount(), 12);
        c.undo();
        due("3 eleven", c.itemCount(), 11);
        due("2 the twelfth again", c.addItem(0, 1, 1), 11);
        due("2 a thirteenth again", c.addItem(0, 1, 1), LIMIT);

        PriceIndexCalculator again = withItems(0, 1, 1);
        again.setPrice(1, 5, 9);
        again.undo();
        again.undo();
        again.addItem(1, 4, 32);
        due("2 no price from an item undone", again.quotedPrice(1, 5), 0);
        again.setPrice(1, 5, 9);
        due("2 its own size and season", again.knownPriceBits(1, 5), bits(9f / 4f));
        due("2 its own stratum", again.matchedCount(1, 5, 5), 1);
        due("2 its own stratum", again.matchedCount(0, 5, 5), 0);
    }

    // ---- promises 4 and 5

    private static void setPrice() {
        range("4 item of 7", BoundaryTests::shop, 0, 6, (c, value) -> c.setPrice(value, 0, 1));
        range("4 item of 12", BoundaryTests::full, 0, 11, (c, value) -> c.setPrice(value, 0, 1));
        range("4 month", BoundaryTests::shop, 0, 23, (c, value) -> c.setPrice(0, value, 1));
        range("4 month of the last item", BoundaryTests::full, 0, 23, (c, value) -> c.setPrice(11, value, 1));
        range("4 price", BoundaryTests::shop, 0, 99999, (c, value) -> c.setPrice(0, 0, value));
        PriceIndexCalculator c = withItems(0, 1, 1);
        due("4 no price before", c.setPrice(1, 23, 1), 0);
        due("4 least price before", c.setPrice(1, 23, 99999), 1);
        due("4 greatest price", c.knownPriceBits(1, 23), bits(99999f));
        due("4 greatest price before", c.setPrice(1, 23, 0), 99999);
        due("4 removed before", c.setPrice(1, 23, 0), 0);
        due("4 removed", c.quotedPrice(1, 23), 0);
        due("4 removed", c.knownPriceBits(1, 23), NONE);
    }

    private static void quotedPrice() {
        range("5 item of 7", BoundaryTests::shop, 0, 6, (c, value) -> c.quotedPrice(value, 0));
        range("5 item of 12", BoundaryTests::full, 0, 11, (c, value) -> c.quotedPrice(value, 0));
        range("5 month", BoundaryTests::shop, 0, 23, (c, value) -> c.quotedPrice(3, value));
        PriceIndexCalculator c = withItems(0, 1, 1, 1);
        c.setPrice(0, 23, 5);
        c.setPrice(1, 0, 6);
        c.setPrice(1, 23, 7);
        c.setPrice(2, 0, 8);
        due("5 the last month of item 0", c.quotedPrice(0, 23), 5);
        due("5 the first month of item 1", c.quotedPrice(1, 0), 6);
        due("5 the last month of item 1", c.quotedPrice(1, 23), 7);
        due("5 the first month of item 2", c.quotedPrice(2, 0), 8);
        due("5 none", c.quotedPrice(0, 0), 0);
    }

    // ---- promises 6 to 8

    private static void appendCharacter() {
        for (Start start : STARTS) {
            range("6 code", start, 0, 255, (c, value) -> c.appendCharacter(value));
            refused("6 a digit and 256", start, ARGUMENT, c -> c.appendCharacter(256 + '0'));
            refused("6 a digit and 65536", start, ARGUMENT, c -> c.appendCharacter(65536 + '0'));
        }
        PriceIndexCalculator c = new PriceIndexCalculator();
        for (int length = 1; length <= 60; length++) {
            due("6 length", c.appendCharacter(length % 2 == 0 ? 0 : 255), length);
        }
        due("6 a sixty-first", c.appendCharacter(0), LIMIT);
        due("6 sixty", c.clearText(), 60);
        due("6 the first again", c.appendCharacter(0), 1);
        refused("6 full", BoundaryTests::full, LIMIT, x -> x.appendCharacter('0'));
        PriceIndexCalculator read = full();
        due("6 an import empties", read.importPrices(), 10);
        due("6 room behind an import", read.appendCharacter('0'), 1);
    }

    private static void clearText() {
        due("7 empty", empty().clearText(), 0);
        due("7 one", write(empty(), "x").clearText(), 1);
        due("7 full", full().clearText(), 60);
        PriceIndexCalculator c = full();
        c.clearText();
        due("7 cleared", c.clearText(), 0);
        due("7 nothing left to import", c.importPrices(), -10);
        write(c, "3@4=5;");
        due("7 the old text is gone", c.importPrices(), 1);
        due("7 the old text is gone", c.clearText(), 0);
        due("7 the new text", c.quotedPrice(3, 4), 5);
    }

    // "Sets the quoted prices that the text in the buffer tells, from left to right, and empties the buffer."
    private static void importPrices() {
        PriceIndexCalculator c = write(priced(2), "0@0=5;0@0=0;1@0=0;1@0=9;");
        due("8 four quotations", c.importPrices(), 4);
        due("8 set, then removed", c.quotedPrice(0, 0), 0);
        due("8 removed, then set", c.quotedPrice(1, 0), 9);
        due("8 the buffer is empty", c.clearText(), 0);
        refused("8 empty buffer", BoundaryTests::empty, -10, x -> x.importPrices());
        refused("8 half a text", BoundaryTests::shop, -10 - 9, x -> x.importPrices());
        due("8 full", full().importPrices(), 10);
        PriceIndexCalculator worked = write(priced(1), "0@1=99;");
        worked.knownPriceBits(0, 1);
        worked.importPrices();
        due("8 prices worked out before are outdated", worked.knownPriceBits(0, 1), bits(99f));
    }

    // ---- promises 9 to 11

    private static void replaceItem() {
        range("9 old item", BoundaryTests::shop, 0, 6, (c, value) -> c.replaceItem(value, 3, 2));
        range("9 new item", BoundaryTests::shop, 0, 6, (c, value) -> c.replaceItem(3, value, 2));
        range("9 old item of 12", BoundaryTests::full, 0, 11, (c, value) -> c.replaceItem(value, 3, 0));
        range("9 new item of 12", BoundaryTests::full, 0, 11, (c, value) -> c.replaceItem(3, value, 0));
        range("9 overlap", BoundaryTests::shop, 0, 23, (c, value) -> c.replaceItem(0, 2, value));
        for (int item = 0; item < 7; item++) {
            int same = item;
            refused("9 both the same", BoundaryTests::shop, ARGUMENT, c -> c.replaceItem(same, same, 0));
        }
        due("9 a second one", shop().replaceItem(0, 2, 0), 2);
        due("9 a second one, turned round", shop().replaceItem(2, 0, 0), 2);
    }

    // "INVALID_STATE if the items belong to different strata"
    private static void replaceItemOfOtherStratum() {
        for (int stratum = 0; stratum < 4; stratum++) {
            for (int other = 0; other < 4; other++) {
                PriceIndexCalculator c = withItems(stratum, 1);
                c.addItem(other, 1, ALWAYS);
                c.setPrice(0, 0, 5);
                c.setPrice(1, 0, 5);
                due("9 strata " + stratum + " and " + other, c.replaceItem(0, 1, 0), stratum == other ? 1 : STATE);
            }
        }
        refused("9 other stratum", BoundaryTests::shop, STATE, c -> c.replaceItem(0, 3, 0));
        refused("9 other stratum", BoundaryTests::shop, STATE, c -> c.replaceItem(3, 0, 0));
    }

    // "if one of them takes part in a replacement"
    private static void replaceItemTwice() {
        refused("9 old again as old", BoundaryTests::shop, STATE, c -> c.replaceItem(1, 0, 2));
        refused("9 old again as new", BoundaryTests::shop, STATE, c -> c.replaceItem(0, 1, 2));
        refused("9 new again as old", BoundaryTests::shop, STATE, c -> c.replaceItem(6, 0, 2));
        refused("9 new again as new", BoundaryTests::shop, STATE, c -> c.replaceItem(0, 6, 2));
        refused("9 the same two", BoundaryTests::shop, STATE, c -> c.replaceItem(1, 6, 2));
        refused("9 the same two, turned round", BoundaryTests::shop, STATE, c -> c.replaceItem(6, 1, 2));
        PriceIndexCalculator c = shop();
        c.endReplacement(1);
        due("9 both are free again", c.replaceItem(6, 1, 0), 1);
        c.undo();
        due("9 both are free again", c.replaceItem(0, 6, 2), 1);
        due("9 the third one is free too", c.replaceItem(1, 2, 0), 2);
    }

    // "if the observed price of one of them in the overlap month does not exist"
    private static void replaceItemUnobserved() {
        for (int missing = 0; missing < 4; missing++) {
            PriceIndexCalculator c = withItems(0, 1, 1);
            c.setPrice(0, 7, (missing & 1) == 0 ? 1 : 0);
            c.setPrice(1, 7, (missing & 2) == 0 ? 1 : 0);
            due("9 unquoted " + missing, c.replaceItem(0, 1, 7), missing == 0 ? 1 : STATE);
            due("9 unquoted in month 6", c.replaceItem(0, 1, 6), STATE);
            due("9 unquoted in month 8", c.replaceItem(0, 1, 8), STATE);

            PriceIndexCalculator season = new PriceIndexCalculator();
            season.addItem(0, 1, (missing & 1) == 0 ? 1 << 7 : ALWAYS - (1 << 7));
            season.addItem(0, 1, (missing & 2) == 0 ? 1 << 7 : ALWAYS - (1 << 7));
            season.setPrice(0, 19, 5);
            season.setPrice(1, 19, 5);
            due("9 out of season " + missing, season.replaceItem(0, 1, 19), missing == 0 ? 1 : STATE);
        }
        refused("9 old item unquoted", BoundaryTests::shop, STATE, c -> c.replaceItem(2, 0, 4));
        refused("9 new item unquoted", BoundaryTests::shop, STATE, c -> c.replaceItem(0, 2, 4));
        refused("9 imputed is not observed", BoundaryTests::shop, STATE, c -> c.replaceItem(0, 2, 23));
    }

    private static void sixReplacements() {
        PriceIndexCalculator c = withItems(3, 1, 1, 1, 1, 1, 1, 1, 1, 1, 1, 1, 1);
        for (int item = 0; item < 12; item++) {
            c.setPrice(item, 23, 5);
        }
        for (int pair = 0; pair < 6; pair++) {
            due("9 pair " + pair, c.replaceItem(11 - pair, pair, 23), pair + 1);
        }
        for (int item = 0; item < 12; item++) {
            due("11 item " + item, c.replacementOf(item), item < 6 ? NONE : 11 - item);
            due("9 all take part", c.replaceItem(item, (item + 1) % 12, 23), STATE);
        }
        for (int pair = 0; pair < 6; pair++) {
            due("10 pair " + pair, c.endReplacement(pair % 2 == 0 ? pair : 11 - pair), 5 - pair);
            due("10 pair " + pair + " again", c.endReplacement(pair), STATE);
            due("10 pair " + pair + " again", c.endReplacement(11 - pair), STATE);
            due("11 pair " + pair, c.replacementOf(11 - pair), NONE);
        }
    }

    private static void endReplacement() {
        range("10 item of 7", BoundaryTests::shop, 0, 6, (c, value) -> c.endReplacement(value));
        range("10 item of 12", BoundaryTests::full, 0, 11, (c, value) -> c.endReplacement(value));
        for (int item : new int[] {0, 2, 3, 4, 5}) {
            refused("10 takes part in none", BoundaryTests::shop, STATE, c -> c.endReplacement(item));
        }
        refused("10 in none at all", BoundaryTests::small, STATE, c -> c.endReplacement(0));
        due("10 by the old item", shop().endReplacement(1), 0);
        due("10 by the new item", shop().endReplacement(6), 0);
        same("10 by the old or by the new item", () -> ended(1), () -> ended(6), ALL_PROBES);
        due("10 of six", full().endReplacement(11), 5);
        Start ended = () -> ended(1);
        refused("10 ended before", ended, STATE, c -> c.endReplacement(1));
        refused("10 ended before", ended, STATE, c -> c.endReplacement(6));
    }

    private static PriceIndexCalculator ended(int item) {
        PriceIndexCalculator c = shop();
        c.endReplacement(item);
        return c;
    }

    private static void replacementOf() {
        range("11 item of 7", BoundaryTests::shop, 0, 6, (c, value) -> c.replacementOf(value));
        range("11 item of 12", BoundaryTests::full, 0, 11, (c, value) -> c.replacementOf(value));
        due("11 old", shop().replacementOf(1), 6);
        due("11 new", shop().replacementOf(6), NONE);
        due("11 neither", shop().replacementOf(0), NONE);
        due("11 ended", ended(1).replacementOf(1), NONE);
        PriceIndexCalculator c = withItems(0, 1, 1);
        c.setPrice(0, 0, 1);
        c.setPrice(1, 0, 1);
        c.replaceItem(1, 0, 0);
        due("11 replaced by item 0", c.replacementOf(1), 0);
        due("11 item 0 is new", c.replacementOf(0), NONE);
    }

    // ---- promises 12 and 13

    private static void setWeight() {
        for (Start start : STARTS) {
            range("12 stratum", start, 0, 3, (c, value) -> c.setWeight(value, 1));
            range("12 weight", start, 0, 100, (c, value) -> c.setWeight(0, value));
            range("12 weight of the last stratum", start, 0, 100, (c, value) -> c.setWeight(3, value));
        }
        PriceIndexCalculator c = new PriceIndexCalculator();
        for (int stratum = 0; stratum < 4; stratum++) {
            due("12 first", c.setWeight(stratum, 0), 25);
            due("12 least before", c.setWeight(stratum, 100), 0);
            due("12 greatest before", c.setWeight(stratum, 100), 100);
        }
    }

    private static void setFormula() {
        for (Start start : STARTS) {
            range("13 formula", start, 0, 2, (c, value) -> c.setFormula(value));
        }
        PriceIndexCalculator c = new PriceIndexCalculator();
        due("13 to 2", c.setFormula(2), 0);
        due("13 to 1", c.setFormula(1), 2);
        due("13 to 0", c.setFormula(0), 1);
        due("13 from 0", c.setFormula(0), 0);
    }

    // ---- promises 14 to 16

    private static void knownPriceBits() {
        range("14 item of 7", BoundaryTests::shop, 0, 6, (c, value) -> c.knownPriceBits(value, 0));
        range("14 item of 12", BoundaryTests::full, 0, 11, (c, value) -> c.knownPriceBits(value, 0));
        range("14 month", BoundaryTests::shop, 0, 23, (c, value) -> c.knownPriceBits(0, value));
        PriceIndexCalculator c = withItems(0, 1, 1000);
        c.setPrice(0, 0, 99999);
        c.setPrice(1, 23, 1);
        due("14 month 0", c.knownPriceBits(0, 0), bits(99999f));
        due("14 month 23, imputed", c.knownPriceBits(0, 23), bits(99999f));
        due("14 month 23", c.knownPriceBits(1, 23), bits(1f / 1000f));
        due("14 month 22", c.knownPriceBits(1, 22), NONE);
        due("14 month 0", c.knownPriceBits(1, 0), NONE);
    }

    private static void isImputed() {
        range("15 item of 7", BoundaryTests::shop, 0, 6, (c, value) -> c.isImputed(value, 0));
        range("15 item of 12", BoundaryTests::full, 0, 11, (c, value) -> c.isImputed(value, 0));
        range("15 month", BoundaryTests::shop, 0, 23, (c, value) -> c.isImputed(0, value));
        PriceIndexCalculator c = withItems(0, 1, 1);
        c.setPrice(0, 0, 5);
        c.setPrice(1, 23, 5);
        due("15 month 0", c.isImputed(0, 0), 0);
        due("15 month 1", c.isImputed(0, 1), 1);
        due("15 month 22", c.isImputed(1, 22), NONE);
        due("15 month 23", c.isImputed(1, 23), 0);
    }

    private static void imputedCount() {
        for (Start start : STARTS) {
            range("16 month", start, 0, 23, (c, value) -> c.imputedCount(value));
        }
        PriceIndexCalculator c = new PriceIndexCalculator();
        for (int item = 0; item < 12; item++) {
            c.addItem(item % 4, 1, ALWAYS);
            due("16 without a price", c.imputedCount(23), item);
            c.setPrice(item, 1, 5);
            due("16 none in its own month", c.imputedCount(1), 0);
            due("16 none before", c.imputedCount(0), 0);
            due("16 all behind", c.imputedCount(23), item + 1);
        }
        due("16 of new items none", full().imputedCount(23), 6);
    }

    // ---- promises 17 to 19

    private static void matchedCount() {
        for (Start start : STARTS) {
            range("17 stratum", start, 0, 3, (c, value) -> c.matchedCount(value, 0, 1));
            range("17 from", start, 0, 23, (c, value) -> c.matchedCount(0, value, 1));
            range("17 to", start, 0, 23, (c, value) -> c.matchedCount(0, 1, value));
        }
        PriceIndexCalculator c = new PriceIndexCalculator();
        for (int item = 0; item < 12; item++) {
            due("17 so far", c.matchedCount(3, 0, 23), item);
            c.addItem(3, 1, ALWAYS);
            c.setPrice(item, 0, 5);
            c.setPrice(item, 23, 5);
        }
        due("17 all", c.matchedCount(3, 0, 23), 12);
        due("17 none of the others", c.matchedCount(2, 0, 23), 0);
    }

    private static void movementBits() {
        for (Start start : STARTS) {
            range("18 stratum", start, 0, 3, (c, value) -> c.movementBits(value, 0, 1));
            range("18 from", start, 0, 23, (c, value) -> c.movementBits(0, value, 1));
            range("18 to", start, 0, 23, (c, value) -> c.movementBits(0, 1, value));
        }
        for (int formula = 0; formula <= 2; formula++) {
            PriceIndexCalculator c = withItems(3, 1, 2, 3, 4, 5, 6, 7, 8, 9, 10, 11, 1000);
            c.setFormula(formula);
            float over = 0f;
            float under = 0f;
            for (int item = 0; item < 12; item++) {
                float size = item == 11 ? 1000f : item + 1f;
                c.setPrice(item, 0, 99999 - 77 * item);
                c.setPrice(item, 23, 1 + 55 * item);
                float p = (99999f - 77 * item) / size;
                float q = (1f + 55 * item) / size;
                over = over + (formula == 0 ? q : formula == 1 ? q / p : 0f);
                under = under + (formula == 0 ? p : formula == 2 ? p / q : 0f);
            }
            float due = formula == 0 ? over / under : formula == 1 ? over / 12f : 12f / under;
            due("18 of all twelve, formula " + formula, c.movementBits(3, 0, 23), bits(due));
        }
    }

    private static void greatestRise() {
        for (Start start : STARTS) {
            range("19 stratum", start, 0, 3, (c, value) -> c.greatestRise(value, 0, 1));
            range("19 from", start, 0, 23, (c, value) -> c.greatestRise(0, value, 1));
            range("19 to", start, 0, 23, (c, value) -> c.greatestRise(0, 1, value));
        }
        PriceIndexCalculator c = withItems(0, 1, 1);
        due("19 none", c.greatestRise(0, 0, 1), NONE);
        c.setPrice(1, 0, 99999);
        due("19 in one month only", c.greatestRise(0, 0, 1), NONE);
        c.setPrice(1, 1, 1);
        due("19 the only one, though it falls", c.greatestRise(0, 0, 1), 1);
        prices(c, 0, 99998, 1);
        due("19 the least of differences", c.greatestRise(0, 0, 1), 0);
    }

    // "the smallest one among equal ratios"
    private static void equalRises() {
        PriceIndexCalculator c = withItems(3, 1, 2, 3, 4, 5, 6, 7, 8, 9, 10, 11, 1000);
        for (int item = 0; item < 12; item++) {
            c.setPrice(item, 0, 64);
            c.setPrice(item, 1, 64);
            c.setPrice(item, 2, item == 0 ? 63 : 64);
            c.setPrice(item, 3, item < 11 ? 64 : 65);
            c.setPrice(item, 4, item == 4 || item == 7 ? 128 : 64);
        }
        due("19 all equal", c.greatestRise(3, 0, 1), 0);
        due("19 all but the first equal", c.greatestRise(3, 0, 2), 1);
        due("19 the last is greatest", c.greatestRise(3, 0, 3), 11);
        due("19 two in the midst", c.greatestRise(3, 0, 4), 4);
        due("19 all the same month", c.greatestRise(3, 4, 4), 0);
    }

    // ---- promises 20 to 22

    private static void directIndex() {
        for (Start start : STARTS) {
            range("20 stratum", start, 0, 3, (c, value) -> c.directIndex(value, 0, 1));
            range("20 base", start, 0, 23, (c, value) -> c.directIndex(0, value, 1));
            range("20 month", start, 0, 23, (c, value) -> c.directIndex(0, 1, value));
        }
        PriceIndexCalculator c = withItems(3, 1);
        c.setPrice(0, 0, 10);
        c.setPrice(0, 23, 12);
        due("20 first to last", c.directIndex(3, 0, 23), 12000);
        due("20 last to first", c.directIndex(3, 23, 0), hundredths(10f / 12f * 100f));
        due("20 no item", c.directIndex(0, 0, 0), NONE);
    }

    // "month: a month, base to 23"
    private static void chainedIndex() {
        for (Start start : STARTS) {
            range("21 stratum", start, 0, 3, (c, value) -> c.chainedIndex(value, 0, 1));
            range("21 base", start, 0, 23, (c, value) -> c.chainedIndex(0, value, 23));
            for (int base : new int[] {0, 1, 12, 23}) {
                range("21 month, base " + base, start, base, 23, (c, value) -> c.chainedIndex(0, base, value));
            }
            refused("21 base and month 24", start, ARGUMENT, c -> c.chainedIndex(0, 24, 24));
            refused("21 base and month -1", start, ARGUMENT, c -> c.chainedIndex(0, -1, -1));
        }
        due("21 empty stratum", empty().chainedIndex(3, 0, 23), 10000);
    }

    private static void drift() {
        for (Start start : STARTS) {
            range("22 stratum", start, 0, 3, (c, value) -> c.drift(value, 0, 1));
            range("22 base", start, 0, 23, (c, value) -> c.drift(0, value, 23));
            for (int base : new int[] {0, 1, 12, 23}) {
                range("22 month, base " + base, start, base, 23, (c, value) -> c.drift(0, base, value));
            }
            refused("22 base and month 24", start, ARGUMENT, c -> c.drift(0, 24, 24));
            refused("22 base and month -1", start, ARGUMENT, c -> c.drift(0, -1, -1));
        }
        PriceIndexCalculator c = withItems(0, 1);
        due("22 no direct index", c.drift(0, 0, 0), NONE);
        c.setPrice(0, 23, 5);
        due("22 no direct index", c.drift(0, 22, 23), NONE);
        due("22 nothing", c.drift(0, 23, 23), 1000000);
    }

    // "Returns 1000000 plus the drift (in int arithmetic)"
    private static void driftAroundTheInts() {
        PriceIndexCalculator high = ladder(1, 99999);
        due("22 chained beyond int, direct not a number", high.drift(0, 8, 23), 1000000 + HIGHEST);
        due("22 the same written out", high.drift(0, 8, 23), -2146483649);
        due("22 both beyond int", high.drift(0, 0, 23), 1000000);
        PriceIndexCalculator low = fallingChain();
        due("22 the chain falls to nothing", low.chainedIndex(0, 0, 4), 0);
        due("22 the index is beyond int", low.directIndex(0, 0, 4), HIGHEST);
        due("22 far below 0", low.drift(0, 0, 4), 1000000 - HIGHEST);
    }

    /** An item rises beyond all bounds in months where it is not matched; the other one's fall is all the chain sees. */
    private static PriceIndexCalculator fallingChain() {
        PriceIndexCalculator c = withItems(0, 1, 1, 1);
        c.setPrice(0, 0, 1);
        c.setPrice(0, 2, 99999);
        c.setPrice(1, 2, 1);
        c.setPrice(1, 4, 99999);
        c.setPrice(2, 0, 99999);
        c.setPrice(2, 1, 1);
        c.replaceItem(0, 1, 2);
        c.setFormula(1);
        return c;
    }

    // ---- promises 23 to 25

    private static void aggregateIndex() {
        for (Start start : STARTS) {
            range("23 base", start, 0, 23, (c, value) -> c.aggregateIndex(value, 1));
            range("23 month", start, 0, 23, (c, value) -> c.aggregateIndex(1, value));
        }
        due("23 no items", empty().aggregateIndex(0, 23), NONE);
        PriceIndexCalculator c = withItems(3, 1);
        c.setPrice(0, 0, 10);
        c.setPrice(0, 23, 12);
        due("23 first to last", c.aggregateIndex(0, 23), 12000);
        due("23 last to first", c.aggregateIndex(23, 0), hundredths(25f * (10f / 12f * 100f) / 25f));
    }

    private static void aggregateBits() {
        for (Start start : STARTS) {
            range("24 base", start, 0, 23, (c, value) -> c.aggregateBits(value, 1));
            range("24 month", start, 0, 23, (c, value) -> c.aggregateBits(1, value));
        }
        due("24 no items", empty().aggregateBits(0, 23), NONE);
        PriceIndexCalculator c = withItems(3, 1);
        c.setPrice(0, 0, 10);
        c.setPrice(0, 23, 12);
        due("24 first to last", c.aggregateBits(0, 23), bits(25f * (12f / 10f * 100f) / 25f));
        due("24 last to first", c.aggregateBits(23, 0), bits(25f * (10f / 12f * 100f) / 25f));
    }

    // "INVALID_STATE if there is none to undo"
    private static void undo() {
        refused("25 nothing to undo", BoundaryTests::empty, STATE, c -> c.undo());
        Start undone = () -> {
            PriceIndexCalculator c = shop();
            for (int n = 0; n < 8; n++) {
                c.setWeight(3, n);
            }
            for (int n = 0; n < 8; n++) {
                due("25 of eight", c.undo(), 7 - n);
            }
            return c;
        };
        refused("25 all eight undone", undone, STATE, c -> c.undo());
        PriceIndexCalculator c = undone.make();
        c.setFormula(2);
        due("25 the only edit", c.undo(), 0);
        due("25 none again", c.undo(), STATE);
    }
}
