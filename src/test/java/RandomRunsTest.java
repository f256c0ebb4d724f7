import java.util.ArrayDeque;
import java.util.ArrayList;
import java.util.Arrays;
import java.util.Deque;
import java.util.HashMap;
import java.util.List;
import java.util.Map;
import java.util.Random;
import java.util.TreeMap;
import java.util.regex.Matcher;
import java.util.regex.Pattern;

/**
 * Runs of random calls, each answered by the class and by a model that reads the document a second time:
 * recursive known prices, true NaN, whole copies for undo and regular expressions for the import.
 */
public final class RandomRunsTest {
    private static final int RUNS = 3000;
    /** Nothing is promised about an object after its 512th call. */
    private static final int CALLS = 512;

    private static final Map<String, Integer> seen = new HashMap<>();

    public static void main(String[] args) {
        for (int run = 0; run < RUNS; run++) {
            String fault = new Run(run).play();
            if (fault != null) {
                System.out.println("run " + run + ":\n" + fault);
                System.exit(1);
            }
        }
        String[] needed = {"NaN bits", "infinite bits", "subnormal bits", "zero bits", "greatest int", "import of many",
            "import error inside", "replacement", "item limit", "text limit", "undo of eight", "NONE", "state"};
        boolean all = true;
        for (String name : needed) {
            if (seen.getOrDefault(name, 0) == 0) {
                all = false;
                System.out.println("the runs never came to: " + name);
            }
        }
        System.out.println(RUNS + " runs agree with the model; seen: " + new TreeMap<>(seen));
        if (!all) {
            System.exit(1);
        }
    }

    private static void count(String name) {
        seen.merge(name, 1, Integer::sum);
    }

    // ---- the model

    private static final class Item {
        int stratum;
        int size;
        int seasons;
        int[] quoted = new int[24];

        Item copy() {
            Item c = new Item();
            c.stratum = stratum;
            c.size = size;
            c.seasons = seasons;
            c.quoted = quoted.clone();
            return c;
        }
    }

    /** {old item, new item, overlap month} in replacements. */
    private static final class World {
        List<Item> items = new ArrayList<>();
        List<int[]> replacements = new ArrayList<>();
        int[] weights = {25, 25, 25, 25};
        int formula;

        World copy() {
            World w = new World();
            for (Item item : items) {
                w.items.add(item.copy());
            }
            for (int[] r : replacements) {
                w.replacements.add(r.clone());
            }
            w.weights = weights.clone();
            w.formula = formula;
            return w;
        }
    }

    private static final class Model {
        private static final Pattern GOOD = Pattern.compile("(0|[1-9][0-9]{0,4})");

        World w = new World();
        StringBuilder text = new StringBuilder();
        final Deque<World> before = new ArrayDeque<>();

        boolean item(int i) {
            return i >= 0 && i < w.items.size();
        }

        static boolean month(int m) {
            return m >= 0 && m <= 23;
        }

        static boolean stratum(int s) {
            return s >= 0 && s <= 3;
        }

        void edit() {
            before.push(w.copy());
            if (before.size() > 8) {
                before.removeLast();
            }
        }

        int[] replacement(int i) {
            for (int[] r : w.replacements) {
                if (r[0] == i || r[1] == i) {
                    return r;
                }
            }
            return null;
        }

        Float observed(int i, int m) {
            Item item = w.items.get(i);
            if (item.quoted[m] == 0 || (item.seasons & (1 << (m % 12))) == 0) {
                return null;
            }
            return (float) item.quoted[m] / (float) item.size;
        }

        Float effective(int i, int m) {
            int[] r = replacement(i);
            if (r == null) {
                return observed(i, m);
            }
            if (r[1] == i) {
                return null;
            }
            if (m <= r[2]) {
                return observed(i, m);
            }
            Float a = observed(r[0], r[2]);
            Float b = observed(r[1], r[2]);
            Float c = observed(r[1], m);
            return a == null || b == null || c == null ? null : (Float) (c * (a / b));
        }

        Float known(int i, int m) {
            Float e = effective(i, m);
            if (e != null) {
                return e;
            }
            Float last = m == 0 ? null : known(i, m - 1);
            return last == null ? null : (Float) (last * movement(w.items.get(i).stratum, m - 1, m));
        }

        float[][] pairs(int s, int f, int t, boolean ofKnown) {
            List<float[]> pairs = new ArrayList<>();
            for (int i = 0; i < w.items.size(); i++) {
                if (w.items.get(i).stratum == s) {
                    Float p = ofKnown ? known(i, f) : effective(i, f);
                    Float q = ofKnown ? known(i, t) : effective(i, t);
                    if (p != null && q != null) {
                        pairs.add(new float[] {p, q});
                    }
                }
            }
            return pairs.toArray(new float[0][]);
        }

        float average(float[][] pairs) {
            float over = 0f;
            float under = 0f;
            float up = 0f;
            float down = 0f;
            for (float[] pair : pairs) {
                over += pair[1];
                under += pair[0];
                up += pair[1] / pair[0];
                down += pair[0] / pair[1];
            }
            switch (w.formula) {
                case 0: return over / under;
                case 1: return up / (float) pairs.length;
                default: return (float) pairs.length / down;
            }
        }

        float movement(int s, int f, int t) {
            float[][] pairs = pairs(s, f, t, false);
            return pairs.length == 0 ? 1f : average(pairs);
        }

        Float direct(int s, int b, int m) {
            float[][] pairs = pairs(s, b, m, true);
            return pairs.length == 0 ? null : (Float) (average(pairs) * 100f);
        }

        float chained(int s, int b, int m) {
            float x = 100f;
            for (int f = b; f < m; f++) {
                x *= movement(s, f, f + 1);
            }
            return x;
        }

        Float aggregate(int b, int m) {
            float sum = 0f;
            int weights = 0;
            for (int s = 0; s < 4; s++) {
                Float d = direct(s, b, m);
                if (d != null) {
                    sum += (float) w.weights[s] * d;
                    weights += w.weights[s];
                }
            }
            return weights == 0 ? null : (Float) (sum / (float) weights);
        }

        static int hundredths(float x) {
            return (int) (x * 100f + 0.5f);
        }

        int importPrices() {
            int at = 0;
            int n = 0;
            List<int[]> found = new ArrayList<>();
            do {
                int[] quotation = new int[3];
                for (int part = 0; part < 3; part++) {
                    Matcher digits = Pattern.compile("[0-9]*").matcher(text);
                    digits.find(at);
                    String number = digits.group();
                    int most = part == 0 ? w.items.size() - 1 : part == 1 ? 23 : 99999;
                    if (!GOOD.matcher(number).matches() || Integer.parseInt(number) > most) {
                        return -10 - at;
                    }
                    quotation[part] = Integer.parseInt(number);
                    at += number.length();
                    if (at == text.length() || text.charAt(at) != "@=;".charAt(part)) {
                        return -10 - at;
                    }
                    at++;
                }
                found.add(quotation);
                n++;
            } while (at < text.length());
            edit();
            for (int[] q : found) {
                w.items.get(q[0]).quoted[q[1]] = q[2];
            }
            text.setLength(0);
            return n;
        }

        int replaceItem(int o, int n, int m) {
            if (!item(o) || !item(n) || o == n || !month(m)) {
                return -1;
            }
            if (w.items.get(o).stratum != w.items.get(n).stratum || replacement(o) != null || replacement(n) != null
                || observed(o, m) == null || observed(n, m) == null) {
                return -2;
            }
            edit();
            w.replacements.add(new int[] {o, n, m});
            return w.replacements.size();
        }

        int greatestRise(int s, int f, int t) {
            int best = -9;
            float most = 0f;
            for (int i = w.items.size() - 1; i >= 0; i--) {
                Float p = effective(i, f);
                Float q = effective(i, t);
                if (w.items.get(i).stratum == s && p != null && q != null && q / p >= most) {
                    best = i;
                    most = q / p;
                }
            }
            return best;
        }

        int edits(int call, int a, int b, int c) {
            switch (call) {
                case 0:
                    if (!stratum(a) || b < 1 || b > 1000 || c < 1 || c > 4095) {
                        return -1;
                    }
                    if (w.items.size() == 12) {
                        return -3;
                    }
                    edit();
                    Item added = new Item();
                    added.stratum = a;
                    added.size = b;
                    added.seasons = c;
                    w.items.add(added);
                    return w.items.size() - 1;
                case 2: {
                    if (!item(a) || !month(b) || c < 0 || c > 99999) {
                        return -1;
                    }
                    edit();
                    int previous = w.items.get(a).quoted[b];
                    w.items.get(a).quoted[b] = c;
                    return previous;
                }
                case 6: return importPrices();
                case 7: return replaceItem(a, b, c);
                case 8:
                    if (!item(a)) {
                        return -1;
                    }
                    if (replacement(a) == null) {
                        return -2;
                    }
                    edit();
                    w.replacements.remove(replacement(a));
                    return w.replacements.size();
                case 10: {
                    if (!stratum(a) || b < 0 || b > 100) {
                        return -1;
                    }
                    edit();
                    int previous = w.weights[a];
                    w.weights[a] = b;
                    return previous;
                }
                case 11: {
                    if (a < 0 || a > 2) {
                        return -1;
                    }
                    edit();
                    int previous = w.formula;
                    w.formula = a;
                    return previous;
                }
                default:
                    if (before.isEmpty()) {
                        return -2;
                    }
                    w = before.pop();
                    return before.size();
            }
        }

        int answer(int call, int a, int b, int c) {
            boolean itemAndMonth = item(a) && month(b);
            boolean stratumAndMonths = stratum(a) && month(b) && month(c);
            switch (call) {
                case 1: return w.items.size();
                case 3: return itemAndMonth ? w.items.get(a).quoted[b] : -1;
                case 4:
                    if (a < 0 || a > 255) {
                        return -1;
                    }
                    if (text.length() == 60) {
                        return -3;
                    }
                    return text.append((char) a).length();
                case 5: {
                    int length = text.length();
                    text.setLength(0);
                    return length;
                }
                case 9: {
                    int[] r = item(a) ? replacement(a) : null;
                    return !item(a) ? -1 : r == null || r[0] != a ? -9 : r[1];
                }
                case 12: {
                    Float k = itemAndMonth ? known(a, b) : null;
                    return !itemAndMonth ? -1 : k == null ? -9 : Float.floatToIntBits(k);
                }
                case 13: return !itemAndMonth ? -1 : known(a, b) == null ? -9 : effective(a, b) == null ? 1 : 0;
                case 14: {
                    int n = 0;
                    for (int i = 0; month(a) && i < w.items.size(); i++) {
                        n += known(i, a) != null && effective(i, a) == null ? 1 : 0;
                    }
                    return month(a) ? n : -1;
                }
                case 15: return stratumAndMonths ? pairs(a, b, c, false).length : -1;
                case 16: return stratumAndMonths ? Float.floatToIntBits(movement(a, b, c)) : -1;
                case 17: return stratumAndMonths ? greatestRise(a, b, c) : -1;
                case 18: {
                    Float d = stratumAndMonths ? direct(a, b, c) : null;
                    return !stratumAndMonths ? -1 : d == null ? -9 : hundredths(d);
                }
                case 19: return !stratumAndMonths || c < b ? -1 : hundredths(chained(a, b, c));
                case 20: {
                    Float d = stratumAndMonths ? direct(a, b, c) : null;
                    return !stratumAndMonths || c < b ? -1 : d == null ? -9
                        : 1000000 + hundredths(chained(a, b, c)) - hundredths(d);
                }
                case 21: {
                    Float g = month(a) && month(b) ? aggregate(a, b) : null;
                    return !month(a) || !month(b) ? -1 : g == null ? -9 : hundredths(g);
                }
                case 22: {
                    Float g = month(a) && month(b) ? aggregate(a, b) : null;
                    return !month(a) || !month(b) ? -1 : g == null ? -9 : Float.floatToIntBits(g);
                }
                default: return edits(call, a, b, c);
            }
        }
    }

    // ---- the runs

    private static final String[] NAMES = {"addItem", "itemCount", "setPrice", "quotedPrice", "appendCharacter", "clearText",
        "importPrices", "replaceItem", "endReplacement", "replacementOf", "setWeight", "setFormula", "knownPriceBits",
        "isImputed", "imputedCount", "matchedCount", "movementBits", "greatestRise", "directIndex", "chainedIndex", "drift",
        "aggregateIndex", "aggregateBits", "undo"};

    private static int ask(PriceIndexCalculator x, int call, int a, int b, int c) {
        switch (call) {
            case 0: return x.addItem(a, b, c);
            case 1: return x.itemCount();
            case 2: return x.setPrice(a, b, c);
            case 3: return x.quotedPrice(a, b);
            case 4: return x.appendCharacter(a);
            case 5: return x.clearText();
            case 6: return x.importPrices();
            case 7: return x.replaceItem(a, b, c);
            case 8: return x.endReplacement(a);
            case 9: return x.replacementOf(a);
            case 10: return x.setWeight(a, b);
            case 11: return x.setFormula(a);
            case 12: return x.knownPriceBits(a, b);
            case 13: return x.isImputed(a, b);
            case 14: return x.imputedCount(a);
            case 15: return x.matchedCount(a, b, c);
            case 16: return x.movementBits(a, b, c);
            case 17: return x.greatestRise(a, b, c);
            case 18: return x.directIndex(a, b, c);
            case 19: return x.chainedIndex(a, b, c);
            case 20: return x.drift(a, b, c);
            case 21: return x.aggregateIndex(a, b);
            case 22: return x.aggregateBits(a, b);
            default: return x.undo();
        }
    }

    private static final class Run {
        static final int[] SIZES = {1, 2, 3, 7, 10, 999, 1000, 0, 1001};

        final Random random;
        final int style;
        final PriceIndexCalculator x = new PriceIndexCalculator();
        final Model model = new Model();
        final List<String> told = new ArrayList<>();
        String fault;
        int calls;

        Run(int seed) {
            random = new Random(seed);
            style = seed % 4;
        }

        String play() {
            if (style == 1) {
                ladder();
            }
            if (style == 2) {
                fillPrices();
            }
            while (fault == null && calls < CALLS) {
                int roll = random.nextInt(100);
                if (roll < 8 && style != 1) {
                    writeText();
                } else if (roll < 40) {
                    step(random.nextInt(4) == 0 ? 23 : 2);
                } else {
                    step(random.nextInt(NAMES.length));
                }
            }
            return fault;
        }

        int wild(int good) {
            int[] odd = {-1, good + 1, Integer.MIN_VALUE, Integer.MAX_VALUE, 24, 12, 4, 60, 100, 101, 1000, 1001};
            return random.nextInt(60) == 0 ? odd[random.nextInt(odd.length)] : good;
        }

        int anItem() {
            return wild(random.nextInt(Math.max(1, model.w.items.size() + (random.nextInt(20) == 0 ? 1 : 0))));
        }

        int aMonth() {
            return wild(random.nextInt(random.nextInt(3) == 0 ? 24 : 6));
        }

        int aStratum() {
            return wild(style == 1 || random.nextBoolean() ? 0 : random.nextInt(4));
        }

        int aPrice() {
            switch (random.nextInt(style == 3 ? 3 : 6)) {
                case 0: return 0;
                case 1: return wild(99999);
                case 2: return 1;
                default: return wild(1 + random.nextInt(random.nextBoolean() ? 300 : 99999));
            }
        }

        void step(int call) {
            switch (call) {
                case 0:
                    told(call, aStratum(), SIZES[random.nextInt(random.nextInt(10) == 0 ? 9 : 7)],
                        wild(random.nextInt(3) > 0 ? 4095 : random.nextInt(4097)));
                    break;
                case 2: told(call, anItem(), aMonth(), aPrice()); break;
                case 4: told(call, wild("0123456789@=;x ".charAt(random.nextInt(15))), 0, 0); break;
                case 7: told(call, anItem(), anItem(), aMonth()); break;
                case 10: told(call, aStratum(), wild(random.nextInt(3) == 0 ? 0 : random.nextInt(101)), 0); break;
                case 11: told(call, wild(random.nextInt(3)), 0, 0); break;
                case 3: case 8: case 9: case 12: case 13: told(call, anItem(), aMonth(), 0); break;
                case 14: case 21: case 22: told(call, aMonth(), aMonth(), 0); break;
                default: told(call, aStratum(), aMonth(), aMonth());
            }
        }

        void told(int call, int a, int b, int c) {
            if (fault != null || calls >= CALLS) {
                return;
            }
            calls++;
            int want = model.answer(call, a, b, c);
            int got = ask(x, call, a, b, c);
            told.add(NAMES[call] + Arrays.toString(new int[] {a, b, c}) + " -> " + got);
            note(call, want);
            if (got != want) {
                fault = String.join("\n", told) + "\ndue is " + want;
            }
        }

        void note(int call, int want) {
            boolean ofBits = call == 12 || call == 16 || call == 22;
            if (ofBits && want == 0x7fc00000) {
                count("NaN bits");
            } else if (ofBits && want == 0x7f800000) {
                count("infinite bits");
            } else if (ofBits && want == 0) {
                count("zero bits");
            } else if (ofBits && want > 0 && want < 0x00800000) {
                count("subnormal bits");
            }
            if (want == Integer.MAX_VALUE) {
                count("greatest int");
            }
            if (call == 6 && want > 2) {
                count("import of many");
            }
            if (call == 6 && want < -12) {
                count("import error inside");
            }
            if (call == 7 && want > 0) {
                count("replacement");
            }
            if (call == 0 && want == -3) {
                count("item limit");
            }
            if (call == 4 && want == -3) {
                count("text limit");
            }
            if (call == 23 && want == 7) {
                count("undo of eight");
            }
            if (want == -9) {
                count("NONE");
            }
            if (want == -2) {
                count("state");
            }
        }

        /** A text that is mostly right, with now and then one sign changed, lost or put twice. */
        void writeText() {
            StringBuilder s = new StringBuilder();
            int quotations = 1 + random.nextInt(6);
            for (int n = 0; n < quotations; n++) {
                int item = random.nextInt(Math.max(1, model.w.items.size()) + (random.nextInt(15) == 0 ? 2 : 0));
                s.append(item).append('@').append(random.nextInt(random.nextInt(15) == 0 ? 40 : 24)).append('=');
                s.append(random.nextInt(3) == 0 ? random.nextInt(100001) : random.nextInt(12)).append(';');
            }
            if (random.nextInt(3) == 0) {
                int at = random.nextInt(s.length());
                switch (random.nextInt(4)) {
                    case 0: s.setCharAt(at, "0123456789@=; :/".charAt(random.nextInt(16))); break;
                    case 1: s.deleteCharAt(at); break;
                    case 2: s.insert(at, s.charAt(at)); break;
                    default: s.setLength(at);
                }
            }
            if (random.nextInt(4) > 0) {
                told(5, 0, 0, 0);
            }
            for (int i = 0; i < s.length(); i++) {
                told(4, s.charAt(i), 0, 0);
            }
            told(6, 0, 0, 0);
        }

        void fillPrices() {
            int items = 2 + random.nextInt(11);
            for (int i = 0; i < items; i++) {
                step(0);
            }
            for (int n = 0; n < 150; n++) {
                told(2, random.nextInt(items), random.nextInt(24), 1 + random.nextInt(99999));
            }
            for (int n = 0; n < 40; n++) {
                step(7);
            }
        }

        /** Items that climb or fall in turn, so that imputed prices leave the range of a float. */
        void ladder() {
            int low = 1 + random.nextInt(random.nextBoolean() ? 3 : 300);
            int high = random.nextBoolean() ? 99999 : 1 + random.nextInt(99999);
            boolean rising = random.nextBoolean();
            for (int i = 0; i < 5; i++) {
                told(0, i == 4 ? 1 : 0, 1 + random.nextInt(3), 4095);
            }
            for (int m = 0; m < 23; m++) {
                told(2, m % 3, m, rising ? low : high);
                told(2, m % 3, m + 1, rising ? high : low);
            }
            told(2, 3, random.nextInt(3), 1 + random.nextInt(9));
            told(2, 4, random.nextInt(3), 1 + random.nextInt(9));
            told(11, random.nextInt(3), 0, 0);
            for (int n = 0; n < 120; n++) {
                int[] questions = {12, 16, 18, 19, 20, 21, 22, 22, 17, 10};
                int call = questions[random.nextInt(questions.length)];
                int first = call == 12 ? random.nextInt(5) : call >= 21 ? random.nextInt(24) : random.nextInt(2);
                told(call, first, call == 10 && random.nextBoolean() ? 0 : random.nextInt(24), random.nextInt(24));
            }
        }
    }
}
