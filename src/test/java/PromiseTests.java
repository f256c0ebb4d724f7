/** A section of calls for each promise of the document: ordinary inputs, edges, wrong inputs. */
public final class PromiseTests {
    private static final int ARGUMENT = -1;
    private static final int STATE = -2;
    private static final int LIMIT = -3;
    private static final int NONE = -9;
    private static final int ALWAYS = 4095;
    private static final int[] NOT_A_MONTH = {-1, 24, Integer.MIN_VALUE, Integer.MAX_VALUE};
    private static final int[] NOT_A_STRATUM = {-1, 4, Integer.MIN_VALUE, Integer.MAX_VALUE};

    private static int wrong = 0;
    private static int asked = 0;

    public static void main(String[] args) {
        newObject();
        addItem();
        itemCount();
        setPrice();
        quotedPrice();
        appendCharacter();
        clearText();
        importPrices();
        importErrors();
        replaceItem();
        endReplacement();
        replacementOf();
        setWeight();
        setFormula();
        knownPriceBits();
        knownPricesOfReplacements();
        overlapMonthIsTheOldItems();
        isImputed();
        imputedCount();
        matchedCount();
        movementBits();
        greatestRise();
        directIndex();
        chainedIndex();
        drift();
        aggregateIndex();
        aggregateBits();
        infiniteAndNotANumber();
        tinyPrices();
        twelveItems();
        undo();
        undoOfEachEdit();
        undoBehindQuestions();
        errorsChangeNothing();
        System.out.println(asked + " answers asked, " + wrong + " not as due");
        if (wrong != 0) {
            System.exit(1);
        }
    }

    // ---- helpers

    private static void due(String what, int got, int want) {
        asked++;
        if (got != want) {
            wrong++;
            System.out.println(what + " answered " + got + ", due is " + want);
        }
    }

    private static int bits(float x) {
        return Float.floatToIntBits(x);
    }

    private static int hundredths(float x) {
        return (int) (x * 100f + 0.5f);
    }

    private static void append(PriceIndexCalculator c, String text) {
        for (int i = 0; i < text.length(); i++) {
            c.appendCharacter(text.charAt(i));
        }
    }

    private static int imported(PriceIndexCalculator c, String text) {
        c.clearText();
        append(c, text);
        return c.importPrices();
    }

    /** Prices of one item from month 0 on; 0 is no price. */
    private static void prices(PriceIndexCalculator c, int item, int... prices) {
        for (int month = 0; month < prices.length; month++) {
            if (prices[month] != 0) {
                c.setPrice(item, month, prices[month]);
            }
        }
    }

    private static PriceIndexCalculator withItems(int stratum, int... sizes) {
        PriceIndexCalculator c = new PriceIndexCalculator();
        for (int size : sizes) {
            c.addItem(stratum, size, ALWAYS);
        }
        return c;
    }

    /** Three items of stratum 0, the second one without a price in month 1, the third in month 2. */
    private static PriceIndexCalculator threeItems() {
        PriceIndexCalculator c = withItems(0, 1, 3, 7);
        prices(c, 0, 100, 110, 121, 90);
        prices(c, 1, 299, 0, 330, 401);
        prices(c, 2, 50, 60, 0, 77);
        return c;
    }

    /**
     * Three items whose prices climb from 1 to 99999 in turn, so that each month's movement is 99999,
     * and a fourth one that is quoted in month 0 alone: its imputed price soon is infinite.
     */
    private static PriceIndexCalculator ladder(int low, int high) {
        PriceIndexCalculator c = withItems(0, 1, 1, 1, 1);
        for (int month = 0; month + 1 < 24; month++) {
            c.setPrice(month % 3, month, low);
            c.setPrice(month % 3, month + 1, high);
        }
        c.setPrice(3, 0, 1);
        return c;
    }

    // ---- promise 1

    private static void newObject() {
        PriceIndexCalculator c = new PriceIndexCalculator();
        due("1 itemCount", c.itemCount(), 0);
        due("1 undo", c.undo(), STATE);
        due("1 clearText", c.clearText(), 0);
        due("1 importPrices", c.importPrices(), -10);
        for (int stratum = 0; stratum < 4; stratum++) {
            due("1 weight " + stratum, c.setWeight(stratum, 25), 25);
        }
        due("1 formula", c.setFormula(0), 0);
        due("1 movementBits", c.movementBits(0, 0, 1), bits(1f));
        due("1 aggregateIndex", c.aggregateIndex(0, 0), NONE);
        due("1 imputedCount", c.imputedCount(0), 0);
        due("1 quotedPrice", c.quotedPrice(0, 0), ARGUMENT);
        PriceIndexCalculator other = new PriceIndexCalculator();
        c.addItem(0, 1, 1);
        due("1 objects are apart", other.itemCount(), 0);
    }

    // ---- promises 2 and 3

    private static void addItem() {
        PriceIndexCalculator c = new PriceIndexCalculator();
        for (int stratum : NOT_A_STRATUM) {
            due("2 stratum " + stratum, c.addItem(stratum, 1, 1), ARGUMENT);
        }
        for (int size : new int[] {0, -1, 1001, Integer.MIN_VALUE, Integer.MAX_VALUE}) {
            due("2 size " + size, c.addItem(0, size, 1), ARGUMENT);
        }
        for (int seasons : new int[] {0, -1, 4096, Integer.MIN_VALUE, Integer.MAX_VALUE}) {
            due("2 seasons " + seasons, c.addItem(0, 1, seasons), ARGUMENT);
        }
        due("2 nothing added", c.itemCount(), 0);
        due("2 least", c.addItem(0, 1, 1), 0);
        due("2 greatest", c.addItem(3, 1000, 4095), 1);
        for (int month = 0; month < 24; month++) {
            due("2 no price", c.quotedPrice(1, month), 0);
        }
        for (int item = 2; item < 12; item++) {
            due("2 number", c.addItem(item % 4, item, item), item);
        }
        due("2 full", c.addItem(0, 1, 1), LIMIT);
        due("2 full and wrong stratum", c.addItem(4, 1, 1), ARGUMENT);
        due("2 full and wrong size", c.addItem(0, 1001, 1), ARGUMENT);
        due("2 full and wrong seasons", c.addItem(0, 1, 0), ARGUMENT);
        c.undo();
        due("2 room again", c.addItem(0, 1, 1), 11);
    }

    private static void itemCount() {
        PriceIndexCalculator c = new PriceIndexCalculator();
        for (int item = 0; item < 12; item++) {
            due("3 before", c.itemCount(), item);
            c.addItem(0, 1, 1);
        }
        due("3 full", c.itemCount(), 12);
        c.addItem(0, 1, 1);
        due("3 after a refusal", c.itemCount(), 12);
        c.undo();
        due("3 after undo", c.itemCount(), 11);
    }

    // ---- promises 4 and 5

    private static void setPrice() {
        PriceIndexCalculator c = withItems(0, 1, 1);
        due("4 first", c.setPrice(0, 0, 1), 0);
        due("4 second", c.setPrice(0, 0, 99999), 1);
        due("4 removal", c.setPrice(0, 0, 0), 99999);
        due("4 removal of none", c.setPrice(0, 0, 0), 0);
        due("4 last month", c.setPrice(1, 23, 5), 0);
        due("4 last month again", c.setPrice(1, 23, 6), 5);
        due("4 other item", c.quotedPrice(0, 23), 0);
        for (int month : NOT_A_MONTH) {
            due("4 month " + month, c.setPrice(0, month, 1), ARGUMENT);
        }
        for (int item : new int[] {-1, 2, 12, Integer.MIN_VALUE, Integer.MAX_VALUE}) {
            due("4 item " + item, c.setPrice(item, 0, 1), ARGUMENT);
        }
        for (int price : new int[] {-1, 100000, Integer.MIN_VALUE, Integer.MAX_VALUE}) {
            due("4 price " + price, c.setPrice(1, 23, price), ARGUMENT);
        }
        due("4 unchanged", c.quotedPrice(1, 23), 6);
    }

    private static void quotedPrice() {
        PriceIndexCalculator c = new PriceIndexCalculator();
        due("5 no item", c.quotedPrice(0, 0), ARGUMENT);
        c.addItem(0, 10, 1);
        c.addItem(1, 10, 1);
        for (int month = 0; month < 24; month++) {
            c.setPrice(0, month, 1000 + month);
        }
        for (int month = 0; month < 24; month++) {
            due("5 out of season too", c.quotedPrice(0, month), 1000 + month);
            due("5 none", c.quotedPrice(1, month), 0);
        }
        for (int month : NOT_A_MONTH) {
            due("5 month " + month, c.quotedPrice(0, month), ARGUMENT);
        }
        for (int item : new int[] {-1, 2, Integer.MIN_VALUE, Integer.MAX_VALUE}) {
            due("5 item " + item, c.quotedPrice(item, 0), ARGUMENT);
        }
    }

    // ---- promises 6 to 8

    private static void appendCharacter() {
        PriceIndexCalculator c = new PriceIndexCalculator();
        due("6 code -1", c.appendCharacter(-1), ARGUMENT);
        due("6 code 256", c.appendCharacter(256), ARGUMENT);
        due("6 code 0", c.appendCharacter(0), 1);
        due("6 code 255", c.appendCharacter(255), 2);
        for (int length = 3; length <= 60; length++) {
            due("6 length", c.appendCharacter('0'), length);
        }
        due("6 full", c.appendCharacter('0'), LIMIT);
        due("6 full and wrong", c.appendCharacter(256), ARGUMENT);
        due("6 full and wrong", c.appendCharacter(Integer.MIN_VALUE), ARGUMENT);
        due("6 kept", c.clearText(), 60);
        due("6 room again", c.appendCharacter('0'), 1);
        due("6 no edit", c.undo(), STATE);
    }

    private static void clearText() {
        PriceIndexCalculator c = withItems(0, 1);
        due("7 empty", c.clearText(), 0);
        append(c, "0@0=");
        due("7 four", c.clearText(), 4);
        due("7 empty again", c.clearText(), 0);
        append(c, "0@1=7;");
        due("7 old text is gone", c.importPrices(), 1);
        due("7 new text", c.quotedPrice(0, 1), 7);
        due("7 no edit", c.undo(), 1);
    }

    private static void importPrices() {
        PriceIndexCalculator c = new PriceIndexCalculator();
        for (int item = 0; item < 12; item++) {
            c.addItem(0, 1, 1);
        }
        due("8 edges", imported(c, "0@0=99999;11@23=1;5@9=10;"), 3);
        due("8 emptied", c.clearText(), 0);
        due("8 first", c.quotedPrice(0, 0), 99999);
        due("8 second", c.quotedPrice(11, 23), 1);
        due("8 third", c.quotedPrice(5, 9), 10);
        due("8 left to right", imported(c, "0@0=5;0@0=6;0@1=7;0@1=0;"), 4);
        due("8 the last one counts", c.quotedPrice(0, 0), 6);
        due("8 removal", c.quotedPrice(0, 1), 0);
        due("8 one edit each", c.undo(), 7);
        due("8 undone", c.quotedPrice(0, 0), 99999);
        StringBuilder sixty = new StringBuilder();
        for (int month = 0; month < 10; month++) {
            sixty.append("3@").append(month).append("=8;");
        }
        due("8 ten quotations", imported(c, sixty.toString()), 10);
        due("8 the first of ten", c.quotedPrice(3, 0), 8);
        due("8 the last of ten", c.quotedPrice(3, 9), 8);
        due("8 longest", imported(c, "10@10=10000;10@11=99999;11@12=12345;11@20=54321;11@21=10001;"), 5);
        due("8 longest, last", c.quotedPrice(11, 21), 10001);
    }

    /** A new object each time, since nothing is promised about one after its 512th call. */
    private static void importError(String text, int offset) {
        PriceIndexCalculator c = withItems(0, 1, 1, 1);
        c.setPrice(0, 0, 4);
        due("8 import of " + text, imported(c, text), -10 - offset);
        due("8 kept text " + text, c.importPrices(), -10 - offset);
        due("8 length of " + text, c.clearText(), text.length());
        due("8 price kept " + text, c.quotedPrice(0, 0), 4);
        due("8 no edit " + text, c.undo(), 3);
    }

    private static void importErrors() {
        importError("", 0);
        importError("0", 1);
        importError("0@", 2);
        importError("0@0", 3);
        importError("0@0=", 4);
        importError("0@0=5", 5);
        importError("0@0=5;0", 7);
        importError("0@0=5; ", 6);
        importError(" 0@0=5;", 0);
        importError("0 @0=5;", 1);
        importError("0@ 0=5;", 2);
        importError("0@0 =5;", 3);
        importError("0@0= 5;", 4);
        importError("0@0=5 ;", 5);
        importError("3@0=5;", 0);
        importError("3", 0);
        importError("99999@0=5;", 0);
        importError("100000@0=5;", 0);
        importError("000000@0=5;", 0);
        importError("00@0=5;", 0);
        importError("01@0=5;", 0);
        importError("01x", 0);
        importError("0@24=5;", 2);
        importError("0@24", 2);
        importError("0@00=5;", 2);
        importError("0@023=5;", 2);
        importError("0@4294967296=5;", 2);
        importError("0@0=100000;", 4);
        importError("0@0=05;", 4);
        importError("0@0=00", 4);
        importError("0@0=4294967297;", 4);
        importError("0@0=18446744073709551617;", 4);
        importError("0@0=-5;", 4);
        importError("0@0=+5;", 4);
        importError("0@0=;", 4);
        importError("@0=5;", 0);
        importError("0@=5;", 2);
        importError("0=0@5;", 1);
        importError("0@0@5;", 3);
        importError("0@0=5@", 5);
        importError("0@0=5;;", 6);
        importError("0@0=5;0@0=6", 11);
        importError("0@0=5;0@0=6;3@0=7;", 12);
        importError("0@0=5;0@0=6;0@99=7;", 14);
        importError("0@0=5;" + (char) 0, 6);
        importError("0@0=5" + (char) 255, 5);
        importError("0@" + (char) ('0' - 1) + "=5;", 2);
        importError("0@" + (char) ('9' + 1) + "=5;", 2);
        StringBuilder digits = new StringBuilder();
        for (int i = 0; i < 60; i++) {
            digits.append('1');
        }
        importError(digits.toString(), 0);
        importError("0@0=1;0@0=1;0@0=1;0@0=1;0@0=1;0@0=1;0@0=1;0@0=1;0@0=1;0@0=12", 60);

        PriceIndexCalculator empty = new PriceIndexCalculator();
        due("8 no items", imported(empty, "0@0=5;"), -10);
        due("8 no items, no digit", imported(empty, "x"), -10);
    }

    // ---- promises 9 to 11

    private static void replaceItem() {
        PriceIndexCalculator c = withItems(1, 10, 5, 1, 1, 1);
        c.addItem(2, 1, ALWAYS);
        c.addItem(1, 1, 1 << 3);
        for (int item = 0; item < 7; item++) {
            c.setPrice(item, 2, 100 + item);
        }
        c.setPrice(6, 3, 50);
        c.setPrice(4, 2, 0);
        for (int month : NOT_A_MONTH) {
            due("9 month " + month, c.replaceItem(0, 1, month), ARGUMENT);
        }
        for (int item : new int[] {-1, 7, 12, Integer.MIN_VALUE, Integer.MAX_VALUE}) {
            due("9 old item " + item, c.replaceItem(item, 1, 2), ARGUMENT);
            due("9 new item " + item, c.replaceItem(1, item, 2), ARGUMENT);
        }
        due("9 same", c.replaceItem(1, 1, 2), ARGUMENT);
        due("9 other stratum", c.replaceItem(0, 5, 2), STATE);
        due("9 other stratum and wrong month", c.replaceItem(0, 5, 24), ARGUMENT);
        due("9 no price of the new item", c.replaceItem(0, 4, 2), STATE);
        due("9 no price of the old item", c.replaceItem(4, 0, 2), STATE);
        due("9 new item out of season", c.replaceItem(0, 6, 2), STATE);
        due("9 old item out of season", c.replaceItem(6, 0, 2), STATE);
        due("9 old price missing in an in-season month", c.replaceItem(0, 6, 3), STATE);
        due("9 first", c.replaceItem(0, 1, 2), 1);
        due("9 old again as old", c.replaceItem(0, 2, 2), STATE);
        due("9 old again as new", c.replaceItem(2, 0, 2), STATE);
        due("9 new again as old", c.replaceItem(1, 2, 2), STATE);
        due("9 new again as new", c.replaceItem(2, 1, 2), STATE);
        due("9 the same again", c.replaceItem(0, 1, 2), STATE);
        due("9 turned round", c.replaceItem(1, 0, 2), STATE);
        due("9 linked and same", c.replaceItem(0, 0, 2), ARGUMENT);
        due("9 second", c.replaceItem(3, 2, 2), 2);
        due("9 undo", c.undo(), 7);
        due("9 second again", c.replaceItem(2, 3, 2), 2);

        PriceIndexCalculator edges = withItems(0, 1, 1, 1, 1);
        edges.setPrice(0, 0, 1);
        edges.setPrice(1, 0, 1);
        edges.setPrice(2, 23, 1);
        edges.setPrice(3, 23, 1);
        due("9 first month", edges.replaceItem(0, 1, 0), 1);
        due("9 last month", edges.replaceItem(3, 2, 23), 2);
    }

    private static void endReplacement() {
        PriceIndexCalculator c = withItems(0, 1, 1, 1, 1, 1);
        for (int item = 0; item < 5; item++) {
            c.setPrice(item, 0, 10);
        }
        c.replaceItem(0, 1, 0);
        c.replaceItem(3, 2, 0);
        for (int item : new int[] {-1, 5, Integer.MIN_VALUE, Integer.MAX_VALUE}) {
            due("10 item " + item, c.endReplacement(item), ARGUMENT);
        }
        due("10 in none", c.endReplacement(4), STATE);
        due("10 by the new item", c.endReplacement(1), 1);
        due("10 again", c.endReplacement(1), STATE);
        due("10 the old one is free too", c.endReplacement(0), STATE);
        due("10 old item's replacement", c.replacementOf(0), NONE);
        due("10 the other stays", c.replacementOf(3), 2);
        due("10 by the old item", c.endReplacement(3), 0);
        due("10 the new one is free too", c.endReplacement(2), STATE);
        due("10 new roles", c.replaceItem(1, 0, 0), 1);
        due("10 new roles", c.replaceItem(2, 4, 0), 2);
        due("10 replacement in the new role", c.replacementOf(1), 0);
    }

    private static void replacementOf() {
        PriceIndexCalculator c = withItems(0, 1, 1, 1);
        for (int item = 0; item < 3; item++) {
            c.setPrice(item, 5, 10);
        }
        due("11 none", c.replacementOf(2), NONE);
        c.replaceItem(2, 0, 5);
        due("11 old", c.replacementOf(2), 0);
        due("11 new", c.replacementOf(0), NONE);
        due("11 neither", c.replacementOf(1), NONE);
        for (int item : new int[] {-1, 3, Integer.MIN_VALUE, Integer.MAX_VALUE}) {
            due("11 item " + item, c.replacementOf(item), ARGUMENT);
        }
        c.setPrice(0, 5, 0);
        due("11 stays without the overlap price", c.replacementOf(2), 0);
    }

    // ---- promises 12 and 13

    private static void setWeight() {
        PriceIndexCalculator c = new PriceIndexCalculator();
        due("12 first", c.setWeight(0, 100), 25);
        due("12 second", c.setWeight(0, 0), 100);
        due("12 third", c.setWeight(0, 1), 0);
        due("12 other stratum", c.setWeight(3, 7), 25);
        for (int stratum : NOT_A_STRATUM) {
            due("12 stratum " + stratum, c.setWeight(stratum, 1), ARGUMENT);
        }
        for (int weight : new int[] {-1, 101, Integer.MIN_VALUE, Integer.MAX_VALUE}) {
            due("12 weight " + weight, c.setWeight(3, weight), ARGUMENT);
        }
        due("12 unchanged", c.setWeight(3, 7), 7);
        due("12 edits", c.undo(), 4);
    }

    private static void setFormula() {
        PriceIndexCalculator c = new PriceIndexCalculator();
        due("13 first", c.setFormula(2), 0);
        due("13 second", c.setFormula(1), 2);
        for (int formula : new int[] {-1, 3, Integer.MIN_VALUE, Integer.MAX_VALUE}) {
            due("13 formula " + formula, c.setFormula(formula), ARGUMENT);
        }
        due("13 third", c.setFormula(1), 1);
        due("13 fourth", c.setFormula(0), 1);
        due("13 edits", c.undo(), 3);
        due("13 restored", c.setFormula(0), 1);
    }

    // ---- promises 14 to 16

    private static void badItemsAndMonths(PriceIndexCalculator c, int items) {
        for (int item : new int[] {-1, items, Integer.MIN_VALUE, Integer.MAX_VALUE}) {
            due("14 item " + item, c.knownPriceBits(item, 0), ARGUMENT);
            due("15 item " + item, c.isImputed(item, 0), ARGUMENT);
        }
        for (int month : NOT_A_MONTH) {
            due("14 month " + month, c.knownPriceBits(0, month), ARGUMENT);
            due("15 month " + month, c.isImputed(0, month), ARGUMENT);
            due("16 month " + month, c.imputedCount(month), ARGUMENT);
        }
    }

    private static void knownPriceBits() {
        PriceIndexCalculator c = threeItems();
        badItemsAndMonths(c, 3);
        due("14 observed", c.knownPriceBits(1, 0), bits(299f / 3f));
        float move = (110f + 60f / 7f) / (100f + 50f / 7f);
        due("14 imputed", c.knownPriceBits(1, 1), bits(299f / 3f * move));
        due("14 observed again", c.knownPriceBits(1, 2), bits(330f / 3f));
        due("14 imputed by one item", c.knownPriceBits(2, 2), bits(60f / 7f * (121f / 110f)));
        due("14 nothing matched", c.knownPriceBits(2, 23), bits(77f / 7f));
        c.setFormula(1);
        move = (110f / 100f + 60f / 7f / (50f / 7f)) / 2f;
        due("14 imputed, formula 1", c.knownPriceBits(1, 1), bits(299f / 3f * move));
        c.setFormula(2);
        move = 2f / (100f / 110f + 50f / 7f / (60f / 7f));
        due("14 imputed, formula 2", c.knownPriceBits(1, 1), bits(299f / 3f * move));

        PriceIndexCalculator late = withItems(0, 1, 1);
        late.setPrice(0, 5, 9);
        due("14 before the first price", late.knownPriceBits(0, 4), NONE);
        due("14 at the first price", late.knownPriceBits(0, 5), bits(9f));
        due("14 after it", late.knownPriceBits(0, 6), bits(9f));
        due("14 no price ever", late.knownPriceBits(1, 23), NONE);

        PriceIndexCalculator chain = withItems(0, 1, 1);
        prices(chain, 0, 3);
        prices(chain, 1, 7, 11, 13, 17);
        float known = 3f * (11f / 7f);
        due("14 imputed once", chain.knownPriceBits(0, 1), bits(known));
        known = known * (13f / 11f);
        known = known * (17f / 13f);
        due("14 imputed three times", chain.knownPriceBits(0, 3), bits(known));
        due("14 movement 1 at the end", chain.knownPriceBits(0, 4), bits(known));

        PriceIndexCalculator apart = withItems(0, 1);
        apart.addItem(1, 1, ALWAYS);
        prices(apart, 0, 3);
        prices(apart, 1, 7, 11);
        due("14 other strata do not move it", apart.knownPriceBits(0, 1), bits(3f));

        PriceIndexCalculator season = new PriceIndexCalculator();
        season.addItem(0, 4, 2);
        for (int month = 0; month < 24; month++) {
            season.setPrice(0, month, 100 + month);
        }
        due("14 out of season", season.knownPriceBits(0, 0), NONE);
        due("14 in season", season.knownPriceBits(0, 1), bits(101f / 4f));
        due("14 imputed out of season", season.knownPriceBits(0, 12), bits(101f / 4f));
        due("14 in season a year later", season.knownPriceBits(0, 13), bits(113f / 4f));
    }

    private static void knownPricesOfReplacements() {
        PriceIndexCalculator c = withItems(2, 7, 3, 1);
        prices(c, 0, 1000, 1100, 1200, 1300, 1400);
        prices(c, 1, 500, 520, 560, 610, 0, 640);
        prices(c, 2, 10, 11, 12, 13, 17);
        c.replaceItem(0, 1, 2);
        float link = 1200f / 7f / (560f / 3f);
        due("14 before the overlap", c.knownPriceBits(0, 1), bits(1100f / 7f));
        due("14 at the overlap", c.knownPriceBits(0, 2), bits(1200f / 7f));
        due("14 after the overlap", c.knownPriceBits(0, 3), bits(610f / 3f * link));
        due("15 after the overlap", c.isImputed(0, 3), 0);
        due("14 the old item's own price is not used", c.knownPriceBits(0, 4), bits(610f / 3f * link * (17f / 13f)));
        due("15 new price missing", c.isImputed(0, 4), 1);
        due("14 linked again", c.knownPriceBits(0, 5), bits(640f / 3f * link));
        for (int month = 0; month < 24; month++) {
            due("14 new item", c.knownPriceBits(1, month), NONE);
            due("15 new item", c.isImputed(1, month), NONE);
        }
        due("16 with a new item", c.imputedCount(0), 0);
        due("16 with a new item", c.imputedCount(4), 1);
        due("16 with a new item", c.imputedCount(23), 2);
        c.setPrice(1, 2, 0);
        due("14 overlap price of the new item removed", c.knownPriceBits(0, 3), bits(1200f / 7f * (13f / 12f)));
        due("15 overlap price of the new item removed", c.isImputed(0, 3), 1);
        c.undo();
        c.setPrice(0, 2, 0);
        due("15 overlap price of the old item removed", c.isImputed(0, 3), 1);
        due("17 overlap price of the old item removed", c.matchedCount(2, 1, 3), 1);
        c.setPrice(0, 2, 2400);
        due("14 overlap price changed", c.knownPriceBits(0, 3), bits(610f / 3f * (2400f / 7f / (560f / 3f))));
    }

    /** b * (a / b) need not be a, so the overlap month itself shows which of the two is taken. */
    private static void overlapMonthIsTheOldItems() {
        int told = 0;
        for (int price = 1; price < 40; price++) {
            float a = 3f / 7f;
            float b = price / 3f;
            if (b * (a / b) != a) {
                told++;
                PriceIndexCalculator c = withItems(0, 7, 3);
                c.setPrice(0, 4, 3);
                c.setPrice(1, 4, price);
                c.replaceItem(0, 1, 4);
                due("14 the overlap month has the old item's price", c.knownPriceBits(0, 4), bits(a));
            }
        }
        due("14 some price tells them apart", told > 0 ? 1 : 0, 1);
    }

    private static void isImputed() {
        PriceIndexCalculator c = threeItems();
        due("15 observed", c.isImputed(1, 0), 0);
        due("15 imputed", c.isImputed(1, 1), 1);
        due("15 observed again", c.isImputed(1, 2), 0);
        due("15 at the end", c.isImputed(0, 23), 1);
        c.addItem(0, 1, ALWAYS);
        due("15 none", c.isImputed(3, 23), NONE);
        c.setPrice(3, 23, 1);
        due("15 none before the first price", c.isImputed(3, 22), NONE);
        due("15 the first price", c.isImputed(3, 23), 0);
    }

    private static void imputedCount() {
        PriceIndexCalculator c = threeItems();
        c.addItem(3, 1, 1);
        c.setPrice(3, 0, 10);
        c.setPrice(3, 1, 10);
        due("16 none", c.imputedCount(0), 0);
        due("16 of two strata", c.imputedCount(1), 2);
        due("16 of two strata", c.imputedCount(2), 2);
        due("16 out of season", c.imputedCount(3), 1);
        due("16 all", c.imputedCount(4), 4);
        due("16 all at the end", c.imputedCount(23), 4);
    }

    // ---- promises 17 to 19

    private static void matchedCount() {
        PriceIndexCalculator c = threeItems();
        c.addItem(1, 1, ALWAYS);
        c.setPrice(3, 0, 5);
        c.setPrice(3, 1, 5);
        due("17 0 to 1", c.matchedCount(0, 0, 1), 2);
        due("17 backwards", c.matchedCount(0, 1, 0), 2);
        due("17 1 to 2", c.matchedCount(0, 1, 2), 1);
        due("17 0 to 3", c.matchedCount(0, 0, 3), 3);
        due("17 same month", c.matchedCount(0, 2, 2), 2);
        due("17 nothing imputed counts", c.matchedCount(0, 0, 4), 0);
        due("17 other stratum", c.matchedCount(1, 0, 1), 1);
        due("17 empty stratum", c.matchedCount(3, 0, 0), 0);
        for (int stratum : NOT_A_STRATUM) {
            due("17 stratum " + stratum, c.matchedCount(stratum, 0, 0), ARGUMENT);
        }
        for (int month : NOT_A_MONTH) {
            due("17 from " + month, c.matchedCount(0, month, 0), ARGUMENT);
            due("17 to " + month, c.matchedCount(0, 0, month), ARGUMENT);
        }
        c.replaceItem(0, 2, 0);
        due("17 a new item is not matched", c.matchedCount(0, 0, 3), 2);
    }

    private static void movementBits() {
        PriceIndexCalculator c = threeItems();
        float a = 100f;
        float b = 299f / 3f;
        float d = 50f / 7f;
        float e = 90f;
        float f = 401f / 3f;
        float g = 77f / 7f;
        due("18 formula 0", c.movementBits(0, 0, 3), bits((e + f + g) / (a + b + d)));
        due("18 backwards", c.movementBits(0, 3, 0), bits((a + b + d) / (e + f + g)));
        c.setFormula(1);
        due("18 formula 1", c.movementBits(0, 0, 3), bits((e / a + f / b + g / d) / 3f));
        c.setFormula(2);
        due("18 formula 2", c.movementBits(0, 0, 3), bits(3f / (a / e + b / f + d / g)));
        due("18 same month", c.movementBits(0, 3, 3), bits(1f));
        due("18 nothing matched", c.movementBits(0, 0, 23), bits(1f));
        due("18 empty stratum", c.movementBits(3, 0, 1), bits(1f));
        for (int stratum : NOT_A_STRATUM) {
            due("18 stratum " + stratum, c.movementBits(stratum, 0, 0), ARGUMENT);
        }
        for (int month : NOT_A_MONTH) {
            due("18 from " + month, c.movementBits(0, month, 0), ARGUMENT);
            due("18 to " + month, c.movementBits(0, 0, month), ARGUMENT);
        }
        movementOrder();
        removedPricesAreGone();
    }

    private static void removedPricesAreGone() {
        for (int formula = 0; formula <= 2; formula++) {
            PriceIndexCalculator c = withItems(0, 1, 1, 1);
            c.setFormula(formula);
            prices(c, 0, 3, 5);
            prices(c, 1, 7, 8);
            prices(c, 2, 9, 17);
            c.movementBits(0, 0, 1);
            c.setPrice(1, 0, 0);
            c.setPrice(2, 1, 0);
            due("18 without removed prices, formula " + formula, c.movementBits(0, 0, 1),
                bits(formula == 2 ? 1f / (3f / 5f) : 5f / 3f));
            due("17 without removed prices, formula " + formula, c.matchedCount(0, 0, 1), 1);
        }
    }

    /** A sum of floats depends on its order: the small terms come last and are lost one by one. */
    private static void movementOrder() {
        PriceIndexCalculator c = withItems(0, 1, 1000, 1000, 1000, 1000);
        prices(c, 0, 99999, 99998);
        float p = 99999f;
        float q = 99998f;
        for (int item = 1; item < 5; item++) {
            prices(c, item, 3 + item, 2 + item);
            p = p + (3f + item) / 1000f;
            q = q + (2f + item) / 1000f;
        }
        due("18 order of the sum", c.movementBits(0, 0, 1), bits(q / p));
    }

    private static void greatestRise() {
        PriceIndexCalculator c = withItems(0, 1, 2, 4, 8);
        c.addItem(1, 1, ALWAYS);
        prices(c, 0, 100, 110, 100);
        prices(c, 1, 100, 120, 90);
        prices(c, 2, 200, 240, 180);
        prices(c, 3, 100, 0, 80, 0, 100);
        prices(c, 4, 1, 99);
        due("19 the first among equals", c.greatestRise(0, 0, 1), 1);
        due("19 backwards", c.greatestRise(0, 1, 0), 0);
        due("19 falls", c.greatestRise(0, 0, 2), 0);
        due("19 same month", c.greatestRise(0, 0, 0), 0);
        due("19 last item", c.greatestRise(0, 0, 4), 3);
        due("19 none", c.greatestRise(0, 0, 3), NONE);
        due("19 other stratum", c.greatestRise(1, 0, 1), 4);
        due("19 empty stratum", c.greatestRise(2, 0, 1), NONE);
        for (int stratum : NOT_A_STRATUM) {
            due("19 stratum " + stratum, c.greatestRise(stratum, 0, 0), ARGUMENT);
        }
        for (int month : NOT_A_MONTH) {
            due("19 from " + month, c.greatestRise(0, month, 0), ARGUMENT);
            due("19 to " + month, c.greatestRise(0, 0, month), ARGUMENT);
        }
        c.replaceItem(3, 1, 0);
        due("19 a new item is not matched", c.greatestRise(0, 0, 1), 2);
        c.setPrice(1, 1, 121);
        due("19 an old item rises by its new one", c.greatestRise(0, 0, 1), 3);
    }

    // ---- promises 20 to 22

    private static void directIndex() {
        PriceIndexCalculator c = threeItems();
        float b = 299f / 3f;
        float d = 50f / 7f;
        float move = (110f + 60f / 7f) / (100f + d);
        float known = b * move;
        float index = (110f + known + 60f / 7f) / (100f + b + d) * 100f;
        due("20 with an imputed price", c.directIndex(0, 0, 1), hundredths(index));
        due("20 same month", c.directIndex(0, 0, 0), 10000);
        due("20 backwards", c.directIndex(0, 3, 0), hundredths((100f + b + d) / (90f + 401f / 3f + 77f / 7f) * 100f));
        c.setFormula(1);
        move = (110f / 100f + 60f / 7f / d) / 2f;
        index = (110f / 100f + b * move / b + 60f / 7f / d) / 3f * 100f;
        due("20 formula 1", c.directIndex(0, 0, 1), hundredths(index));
        c.setFormula(2);
        move = 2f / (100f / 110f + d / (60f / 7f));
        index = 3f / (100f / 110f + b / (b * move) + d / (60f / 7f)) * 100f;
        due("20 formula 2", c.directIndex(0, 0, 1), hundredths(index));
        due("20 empty stratum", c.directIndex(1, 0, 1), NONE);
        c.addItem(1, 1, ALWAYS);
        c.setPrice(3, 5, 10);
        due("20 not known in the base month", c.directIndex(1, 4, 5), NONE);
        due("20 not known in the month", c.directIndex(1, 5, 4), NONE);
        due("20 imputed to the end", c.directIndex(1, 5, 23), 10000);
        for (int stratum : NOT_A_STRATUM) {
            due("20 stratum " + stratum, c.directIndex(stratum, 0, 0), ARGUMENT);
        }
        for (int month : NOT_A_MONTH) {
            due("20 base " + month, c.directIndex(0, month, 0), ARGUMENT);
            due("20 month " + month, c.directIndex(0, 0, month), ARGUMENT);
        }
    }

    private static void badChains(String promise, PriceIndexCalculator c, boolean chained) {
        for (int stratum : NOT_A_STRATUM) {
            due(promise + " stratum " + stratum, chained ? c.chainedIndex(stratum, 0, 0) : c.drift(stratum, 0, 0), ARGUMENT);
        }
        for (int month : NOT_A_MONTH) {
            due(promise + " base " + month, chained ? c.chainedIndex(0, month, 23) : c.drift(0, month, 23), ARGUMENT);
            due(promise + " month " + month, chained ? c.chainedIndex(0, 0, month) : c.drift(0, 0, month), ARGUMENT);
        }
        due(promise + " month before base", chained ? c.chainedIndex(0, 2, 1) : c.drift(0, 2, 1), ARGUMENT);
        due(promise + " both 24", chained ? c.chainedIndex(0, 24, 24) : c.drift(0, 24, 24), ARGUMENT);
        due(promise + " both -1", chained ? c.chainedIndex(0, -1, -1) : c.drift(0, -1, -1), ARGUMENT);
    }

    private static float chainOfThree() {
        float index = 100f;
        index = index * ((110f + 60f / 7f) / (100f + 50f / 7f));
        index = index * (121f / 110f);
        return index * ((90f + 401f / 3f) / (121f + 330f / 3f));
    }

    private static void chainedIndex() {
        PriceIndexCalculator c = threeItems();
        due("21 three months", c.chainedIndex(0, 0, 3), hundredths(chainOfThree()));
        due("21 to the end", c.chainedIndex(0, 0, 23), hundredths(chainOfThree()));
        due("21 one month", c.chainedIndex(0, 1, 2), hundredths(100f * (121f / 110f)));
        due("21 same month", c.chainedIndex(0, 3, 3), 10000);
        due("21 last month", c.chainedIndex(0, 23, 23), 10000);
        due("21 empty stratum", c.chainedIndex(3, 0, 23), 10000);
        c.setFormula(1);
        due("21 formula 1", c.chainedIndex(0, 0, 1), hundredths(100f * ((110f / 100f + 60f / 7f / (50f / 7f)) / 2f)));
        badChains("21", c, true);
    }

    private static void drift() {
        PriceIndexCalculator c = threeItems();
        float direct = (90f + 401f / 3f + 77f / 7f) / (100f + 299f / 3f + 50f / 7f) * 100f;
        int due = 1000000 + hundredths(chainOfThree()) - hundredths(direct);
        due("22 three months", c.drift(0, 0, 3), due);
        due("22 same month", c.drift(0, 2, 2), 1000000);
        due("22 empty stratum", c.drift(3, 0, 23), NONE);
        due("22 empty stratum, wrong order", c.drift(3, 1, 0), ARGUMENT);
        c.addItem(1, 1, ALWAYS);
        c.setPrice(3, 5, 10);
        due("22 no direct index", c.drift(1, 4, 5), NONE);
        badChains("22", c, false);

        PriceIndexCalculator below = withItems(0, 1, 1);
        prices(below, 0, 100, 1, 100);
        prices(below, 1, 1, 0, 100);
        due("22 chained below direct", below.drift(0, 0, 2), 1000000 + 10000 - hundredths(200f / 101f * 100f));
    }

    // ---- promises 23 and 24

    private static PriceIndexCalculator twoStrata() {
        PriceIndexCalculator c = withItems(0, 1);
        c.addItem(2, 1, ALWAYS);
        c.addItem(3, 1, ALWAYS);
        prices(c, 0, 3, 7);
        prices(c, 1, 11, 13);
        c.setPrice(2, 1, 9);
        return c;
    }

    private static void aggregateIndex() {
        PriceIndexCalculator c = twoStrata();
        float first = 7f / 3f * 100f;
        float second = 13f / 11f * 100f;
        due("23 equal weights", c.aggregateIndex(0, 1), hundredths((25f * first + 25f * second) / 50f));
        c.setWeight(0, 10);
        c.setWeight(2, 93);
        due("23 weights", c.aggregateIndex(0, 1), hundredths((10f * first + 93f * second) / 103f));
        due("23 backwards", c.aggregateIndex(1, 0), hundredths((10f * (3f / 7f * 100f) + 93f * (11f / 13f * 100f)) / 103f));
        due("23 all three", c.aggregateIndex(1, 2), 10000);
        c.setWeight(2, 0);
        due("23 one weight is 0", c.aggregateIndex(0, 1), hundredths(10f * first / 10f));
        c.setWeight(0, 0);
        due("23 weights 0", c.aggregateIndex(0, 1), NONE);
        due("23 another stratum has weight", c.aggregateIndex(1, 1), 10000);
        due("23 no items", new PriceIndexCalculator().aggregateIndex(0, 23), NONE);
        for (int month : NOT_A_MONTH) {
            due("23 base " + month, c.aggregateIndex(month, 0), ARGUMENT);
            due("23 month " + month, c.aggregateIndex(0, month), ARGUMENT);
        }
    }

    private static void aggregateBits() {
        PriceIndexCalculator c = twoStrata();
        float first = 7f / 3f * 100f;
        float second = 13f / 11f * 100f;
        c.setWeight(0, 10);
        c.setWeight(2, 93);
        due("24 weights", c.aggregateBits(0, 1), bits((10f * first + 93f * second) / 103f));
        due("24 same month", c.aggregateBits(0, 0), bits((10f * 100f + 93f * 100f) / 103f));
        c.setFormula(2);
        due("24 formula 2", c.aggregateBits(0, 1),
            bits((10f * (1f / (3f / 7f) * 100f) + 93f * (1f / (11f / 13f) * 100f)) / 103f));
        c.setWeight(0, 0);
        c.setWeight(2, 0);
        due("24 weights 0", c.aggregateBits(0, 1), NONE);
        due("24 no items", new PriceIndexCalculator().aggregateBits(0, 0), NONE);
        for (int month : NOT_A_MONTH) {
            due("24 base " + month, c.aggregateBits(month, 0), ARGUMENT);
            due("24 month " + month, c.aggregateBits(0, month), ARGUMENT);
        }
    }

    private static void infiniteAndNotANumber() {
        int infinite = bits(Float.POSITIVE_INFINITY);
        int notANumber = bits(Float.NaN);
        PriceIndexCalculator c = ladder(1, 99999);
        due("14 infinite", c.knownPriceBits(3, 8), infinite);
        due("14 infinite to the end", c.knownPriceBits(3, 23), infinite);
        due("20 infinite", c.directIndex(0, 0, 8), Integer.MAX_VALUE);
        due("20 not a number", c.directIndex(0, 8, 9), 0);
        due("20 nothing of infinity", c.directIndex(0, 9, 0), 0);
        due("21 infinite", c.chainedIndex(0, 0, 23), Integer.MAX_VALUE);
        due("22 both infinite", c.drift(0, 0, 23), 1000000);
        due("22 in int arithmetic", c.drift(0, 8, 23), 1000000 + Integer.MAX_VALUE);
        due("23 infinite", c.aggregateIndex(0, 8), Integer.MAX_VALUE);
        due("24 infinite", c.aggregateBits(0, 8), infinite);
        due("23 not a number", c.aggregateIndex(8, 9), 0);
        due("24 not a number", c.aggregateBits(8, 9), notANumber);
        c.addItem(1, 1, ALWAYS);
        c.setPrice(4, 0, 5);
        due("24 infinite and finite", c.aggregateBits(0, 8), infinite);
        due("24 not a number and finite", c.aggregateBits(8, 9), notANumber);
        c.setWeight(0, 0);
        due("24 weight 0 times infinite", c.aggregateBits(0, 8), notANumber);
        due("24 weight 0 times not a number", c.aggregateBits(8, 9), notANumber);
        due("23 weight 0 times infinite", c.aggregateIndex(0, 8), 0);
        for (int formula = 1; formula <= 2; formula++) {
            c.setFormula(formula);
            due("20 not a number, formula " + formula, c.directIndex(0, 8, 9), 0);
            due("24 not a number, formula " + formula, c.aggregateBits(8, 9), notANumber);
        }
    }

    private static void tinyPrices() {
        PriceIndexCalculator c = ladder(99999, 1);
        float known = 1f;
        float chain = 100f;
        for (int month = 1; month < 24; month++) {
            known = known * (1f / 99999f);
            chain = chain * (1f / 99999f);
            due("14 down to nothing, month " + month, c.knownPriceBits(3, month), bits(known));
            due("21 down to nothing, month " + month, c.chainedIndex(0, 0, month), hundredths(chain));
        }
        c.setFormula(1);
        due("20 nothing over nothing", c.directIndex(0, 22, 23), 0);
        due("24 nothing over nothing", c.aggregateBits(22, 23), bits(Float.NaN));
        due("20 something over nothing", c.directIndex(0, 23, 0), Integer.MAX_VALUE);
        c.setFormula(2);
        due("20 nothing over something", c.directIndex(0, 0, 23), 0);

        PriceIndexCalculator slow = ladder(20, 1);
        known = 1f;
        for (int month = 1; month < 24; month++) {
            known = known * (1f / 20f);
            due("14 slowly down, month " + month, slow.knownPriceBits(3, month), bits(known));
        }
        PriceIndexCalculator subnormal = ladder(100, 1);
        known = 1f;
        for (int month = 1; month < 24; month++) {
            known = known * (1f / 100f);
            due("14 through subnormal floats, month " + month, subnormal.knownPriceBits(3, month), bits(known));
        }
    }

    /** With all twelve items in use, the last row of each table is in use too. */
    private static void twelveItems() {
        PriceIndexCalculator c = withItems(3, 1, 1, 1, 1, 1, 1, 1, 1, 1, 1, 1, 1);
        for (int item = 0; item < 12; item++) {
            c.setPrice(item, 0, 100 + item);
            c.setPrice(item, 22, 200 + 3 * item);
            c.setPrice(item, 23, 300 + 7 * item);
        }
        float first = 0f;
        float last = 0f;
        for (int item = 0; item < 12; item++) {
            first += 100f + item;
            last += 300f + 7f * item;
        }
        due("9 the last item", c.replaceItem(10, 11, 23), 1);
        due("10 the last item", c.endReplacement(11), 0);
        due("14 the last item", c.knownPriceBits(11, 23), bits(377f));
        due("15 the last item", c.isImputed(11, 21), 1);
        due("16 all twelve", c.imputedCount(21), 12);
        due("17 all twelve", c.matchedCount(3, 0, 23), 12);
        due("18 all twelve", c.movementBits(3, 0, 23), bits(last / first));
        due("19 the last item", c.greatestRise(3, 22, 23), 11);
        due("20 all twelve", c.directIndex(3, 0, 23), hundredths(last / first * 100f));
        due("23 all twelve", c.aggregateIndex(0, 23), hundredths(25f * (last / first * 100f) / 25f));
        c.setFormula(1);
        due("22 all twelve", c.drift(3, 21, 22), 1000000 + 10000 - c.directIndex(3, 21, 22));
    }

    // ---- promise 25

    private static void undo() {
        PriceIndexCalculator c = withItems(0, 1);
        for (int price = 1; price <= 10; price++) {
            c.setPrice(0, 0, price);
        }
        for (int left = 7; left >= 0; left--) {
            due("25 left", c.undo(), left);
            due("25 price", c.quotedPrice(0, 0), left + 2);
        }
        due("25 none left", c.undo(), STATE);
        due("25 unchanged", c.quotedPrice(0, 0), 2);
        c.setPrice(0, 0, 50);
        c.setPrice(0, 0, 51);
        due("25 again", c.undo(), 1);
        due("25 price again", c.quotedPrice(0, 0), 50);
        c.setPrice(0, 0, 52);
        due("25 after an edit behind an undo", c.undo(), 1);
        due("25 price", c.quotedPrice(0, 0), 50);
        due("25 and the one before", c.undo(), 0);
        due("25 price", c.quotedPrice(0, 0), 2);
        for (int edit = 0; edit < 80; edit++) {
            c.setPrice(0, 1, edit + 1);
            c.setPrice(0, 2, edit + 1);
            due("25 long run", c.undo(), edit < 6 ? edit + 1 : 7);
            due("25 long run, undone", c.quotedPrice(0, 2), 0);
            due("25 long run, kept", c.quotedPrice(0, 1), edit + 1);
        }
    }

    private static void undoOfEachEdit() {
        PriceIndexCalculator c = withItems(0, 1, 2);
        prices(c, 0, 10, 20);
        prices(c, 1, 30, 50);
        append(c, "0@0=1");

        c.addItem(1, 3, 7);
        c.setPrice(2, 0, 9);
        c.undo();
        c.undo();
        due("25 addItem", c.itemCount(), 2);
        due("25 addItem", c.quotedPrice(2, 0), ARGUMENT);
        c.addItem(0, 3, ALWAYS);
        due("25 no price of the item undone", c.quotedPrice(2, 0), 0);
        due("25 no known price of the item undone", c.knownPriceBits(2, 23), NONE);
        c.setPrice(2, 0, 9);
        due("25 the new item's own size and seasons", c.knownPriceBits(2, 0), bits(9f / 3f));
        c.undo();
        c.undo();

        c.replaceItem(0, 1, 0);
        c.undo();
        due("25 replaceItem", c.replacementOf(0), NONE);
        due("25 replaceItem", c.endReplacement(1), STATE);
        due("25 replaceItem", c.knownPriceBits(1, 1), bits(25f));

        c.replaceItem(0, 1, 0);
        c.endReplacement(0);
        c.undo();
        due("25 endReplacement", c.replacementOf(0), 1);
        due("25 endReplacement", c.knownPriceBits(0, 1), bits(25f * (10f / 15f)));
        c.undo();

        c.setWeight(0, 77);
        c.undo();
        due("25 setWeight", c.setWeight(0, 25), 25);
        c.undo();

        c.setFormula(2);
        c.undo();
        due("25 setFormula", c.movementBits(0, 0, 1), bits((20f + 25f) / (10f + 15f)));

        due("25 the text is kept", c.appendCharacter(';'), 6);
        due("25 importPrices", c.importPrices(), 1);
        due("25 importPrices", c.quotedPrice(0, 0), 1);
        c.undo();
        due("25 importPrices", c.quotedPrice(0, 0), 10);
        due("25 the text stays empty", c.clearText(), 0);
    }

    private static void undoBehindQuestions() {
        PriceIndexCalculator c = withItems(0, 1);
        prices(c, 0, 10, 20);
        due("25 before", c.directIndex(0, 0, 1), 20000);
        c.setPrice(0, 1, 30);
        due("25 edited", c.directIndex(0, 0, 1), 30000);
        c.undo();
        due("25 undone", c.directIndex(0, 0, 1), 20000);
        due("25 undone", c.knownPriceBits(0, 1), bits(20f));

        PriceIndexCalculator r = withItems(0, 1, 1);
        prices(r, 0, 10, 20, 30, 40);
        prices(r, 1, 50, 60, 70, 80);
        r.replaceItem(0, 1, 0);
        r.endReplacement(0);
        r.replaceItem(0, 1, 2);
        due("25 second overlap", r.knownPriceBits(0, 1), bits(20f));
        r.undo();
        r.undo();
        due("25 first overlap again", r.knownPriceBits(0, 1), bits(60f * (10f / 50f)));
    }

    private static void errorsChangeNothing() {
        PriceIndexCalculator c = withItems(0, 1);
        c.addItem(5, 1, 1);
        c.setPrice(0, 0, -1);
        c.importPrices();
        c.replaceItem(0, 0, 0);
        c.endReplacement(0);
        c.setWeight(0, 101);
        c.setFormula(3);
        due("25 errors are no edits", c.undo(), 0);
        due("25 nothing left", c.undo(), STATE);
        c.setPrice(0, 0, 1);
        due("25 no item, no edit", c.undo(), STATE);
        c.setWeight(0, 25);
        due("25 an edit that changes nothing is one", c.undo(), 0);
        c.itemCount();
        c.knownPriceBits(0, 0);
        c.aggregateIndex(0, 0);
        due("25 questions are no edits", c.undo(), STATE);
    }
}
