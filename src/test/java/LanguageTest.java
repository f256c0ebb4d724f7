import java.io.IOException;
import java.lang.reflect.Constructor;
import java.lang.reflect.Field;
import java.lang.reflect.Method;
import java.lang.reflect.Modifier;
import java.nio.file.Files;
import java.nio.file.Path;
import java.util.Arrays;
import java.util.Set;
import java.util.TreeSet;
import java.util.regex.Matcher;
import java.util.regex.Pattern;

/** The public face of the document, and the rules of LANGUAGE.md that can be seen from outside. */
public final class LanguageTest {
    private static final Path SOURCE = Path.of("src/main/java/PriceIndexCalculator.java");
    private static final String[] FACE = {
        "addItem/3", "itemCount/0", "setPrice/3", "quotedPrice/2", "appendCharacter/1", "clearText/0", "importPrices/0",
        "replaceItem/3", "endReplacement/1", "replacementOf/1", "setWeight/2", "setFormula/1", "knownPriceBits/2",
        "isImputed/2", "imputedCount/1", "matchedCount/3", "movementBits/3", "greatestRise/3", "directIndex/3",
        "chainedIndex/3", "drift/3", "aggregateIndex/2", "aggregateBits/2", "undo/0"};
    private static final String[] CONSTANTS = {"INVALID_ARGUMENT=-1", "INVALID_STATE=-2", "LIMIT_REACHED=-3", "NONE=-9"};
    /** What the rules leave out and this class could be tempted to use. */
    private static final String[] LEFT_OUT = {
        "\\bpackage\\b", "\\bimport\\b", "\\bFloat\\s*\\.", "\\bDouble\\s*\\.", "\\bMath\\s*\\.", "\\bCharacter\\s*\\.",
        "Exact\\b", "->", "::", "\\bthrow\\b", "\\btry\\b", "\\bcatch\\b", "\\bfinally\\b", "\\bsynchronized\\b",
        "\\bassert\\b", "\\bstatic\\s*\\{", "\\bSystem\\s*\\.\\s*(?!arraycopy\\b)", "\\bvar\\b", "\"", "[^\\x00-\\x7f]"};

    private static int wrong = 0;

    public static void main(String[] args) throws IOException, IllegalAccessException {
        Class<?> c = PriceIndexCalculator.class;
        check(Modifier.isPublic(c.getModifiers()) && Modifier.isFinal(c.getModifiers()), "rule 1: public and final");
        constructors(c);
        methods(c);
        fields(c);
        Class<?>[] inside = c.getDeclaredClasses();
        check(inside.length <= 12, "rule 11: at most twelve classes");
        for (Class<?> nested : inside) {
            nested(nested);
        }
        source();
        System.out.println(wrong == 0 ? "the face and the rules are kept" : wrong + " faults");
        if (wrong != 0) {
            System.exit(1);
        }
    }

    private static void check(boolean kept, String rule) {
        if (!kept) {
            wrong++;
            System.out.println("not kept: " + rule);
        }
    }

    private static void constructors(Class<?> c) {
        Constructor<?>[] all = c.getDeclaredConstructors();
        check(all.length == 1 && all[0].getParameterCount() == 0 && Modifier.isPublic(all[0].getModifiers()),
            "the face: one public constructor");
    }

    private static void methods(Class<?> c) {
        Set<String> found = new TreeSet<>();
        for (Method m : c.getDeclaredMethods()) {
            if (Modifier.isPublic(m.getModifiers())) {
                boolean ofInts = Arrays.stream(m.getParameterTypes()).allMatch(t -> t == int.class);
                check(m.getReturnType() == int.class && ofInts, "the face: types of " + m.getName());
                check(!Modifier.isStatic(m.getModifiers()), "the face: " + m.getName() + " is of the object");
                found.add(m.getName() + "/" + m.getParameterCount());
            } else {
                check(Modifier.isPrivate(m.getModifiers()), "rule 1: " + m.getName() + " is private");
                notNamedAsTheFace(m);
            }
        }
        check(found.equals(new TreeSet<>(Arrays.asList(FACE))), "the face: methods " + found);
    }

    private static void notNamedAsTheFace(Method m) {
        for (String name : FACE) {
            check(!name.startsWith(m.getName() + "/"), "rule 1: " + m + " bears a name of the face");
        }
        check(m.getParameterCount() <= 7, "rule 11: parameters of " + m);
    }

    private static void fields(Class<?> c) throws IllegalAccessException {
        Set<String> found = new TreeSet<>();
        for (Field f : c.getDeclaredFields()) {
            if (Modifier.isPublic(f.getModifiers())) {
                found.add(f.getName() + "=" + f.getInt(null));
            } else {
                check(Modifier.isPrivate(f.getModifiers()), "rule 1: " + f.getName() + " is private");
            }
            staticIsConstant(f);
        }
        check(found.equals(new TreeSet<>(Arrays.asList(CONSTANTS))), "the face: constants " + found);
    }

    private static void staticIsConstant(Field f) {
        if (Modifier.isStatic(f.getModifiers())) {
            check(Modifier.isFinal(f.getModifiers()) && f.getType() == int.class, "rule 5: " + f);
        }
    }

    private static void nested(Class<?> c) {
        check(Modifier.isStatic(c.getModifiers()) && !Modifier.isPublic(c.getModifiers())
            && !Modifier.isProtected(c.getModifiers()), "rule 1: " + c.getName());
        int own = 0;
        for (Field f : c.getDeclaredFields()) {
            staticIsConstant(f);
            own += Modifier.isStatic(f.getModifiers()) ? 0 : 1;
        }
        check(own <= 20, "rule 11: fields of " + c.getName());
        for (Method m : c.getDeclaredMethods()) {
            notNamedAsTheFace(m);
        }
    }

    private static void source() throws IOException {
        String code = Files.readString(SOURCE).replaceAll("(?s)/\\*.*?\\*/", " ").replaceAll("//[^\n]*", " ");
        for (String left : LEFT_OUT) {
            Matcher m = Pattern.compile(left).matcher(code);
            check(!m.find(), "LANGUAGE.md leaves out " + left);
        }
    }
}
