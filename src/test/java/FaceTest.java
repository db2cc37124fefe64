import java.io.IOException;
import java.lang.reflect.Constructor;
import java.lang.reflect.Field;
import java.lang.reflect.Method;
import java.lang.reflect.Modifier;
import java.nio.file.Files;
import java.nio.file.Path;
import java.util.Set;
import java.util.TreeSet;
import java.util.regex.Pattern;

/** The document's face and no more, and some of the rules of LANGUAGE.md that can be read off. */
public final class FaceTest {
    private static final Due DUE = new Due("FaceTest");

    private static final Set<String> FACE = Set.of(
        "boolean world(int,int,int,int)", "boolean weight(int,int,int,int,int)", "int told(int,int)",
        "boolean mix(int,int,int)", "boolean tell(int,int)", "boolean law(int,int,int)",
        "boolean plain(int,int)", "int number(int,int)", "int sign(int,int)",
        "int compare(int,int,int,int)", "int near(int,int)", "int always(int,int)",
        "int breaks(int,int)", "boolean prove(int)", "int share(int,int)", "int mean(int,int)",
        "boolean words(int,int)", "int secret(int,int)");

    /** Rule 5; the constants of an enum, and by rule 12 an array of them, would be fine, too. */
    private static final Set<Class<?>> STATIC_TYPES = Set.of(int.class, long.class, boolean.class, char.class,
        String.class, int[].class, long[].class, char[].class, byte[].class);

    /** Rule 11. */
    private static final int MOST_PARAMETERS = 7;
    private static final int MOST_CLASSES = 12;
    private static final int MOST_FIELDS = 20;

    /** Outside the language: rules 2, 4, 6 and 13. */
    private static final String[] REFUSED = {
        "\\bthrow\\b", "\\bthrows\\b", "\\btry\\b", "\\bcatch\\b", "\\bfinally\\b", "\\bsynchronized\\b",
        "\\bassert\\b", "^(?!.*\\b(case|default)\\b).*->", "::", "Exact\\b", "\\bBigInteger\\b",
        "\\bSystem\\.(?!arraycopy)", "\\bpackage\\b", "^import (?!java\\.util\\.(Arrays|ArrayList|List|Iterator);)",
        "\\bMath\\.(?!abs|max|min|floorDiv|floorMod|multiplyHigh|multiplyFull)",
    };

    public static void main(String[] args) throws IOException {
        face();
        constants();
        fields(TellingBench.class);
        methods(TellingBench.class);
        nestedClasses();
        source();
        DUE.end();
    }

    private static void face() {
        DUE.yes("public and final", Modifier.isPublic(TellingBench.class.getModifiers())
            && Modifier.isFinal(TellingBench.class.getModifiers()));
        Set<String> seen = new TreeSet<>();
        for (Method method : TellingBench.class.getDeclaredMethods()) {
            if (!Modifier.isPrivate(method.getModifiers())) {
                seen.add(form(method));
            }
        }
        DUE.yes("the methods: " + seen, seen.equals(new TreeSet<>(FACE)));
        Constructor<?>[] makers = TellingBench.class.getDeclaredConstructors();
        DUE.is("constructors", makers.length, 1);
        DUE.is("its parameters", makers[0].getParameterCount(), 0);
        DUE.yes("it is public", Modifier.isPublic(makers[0].getModifiers()));
    }

    private static String form(Method method) {
        StringBuilder text = new StringBuilder(method.getReturnType() + " " + method.getName() + "(");
        for (Class<?> type : method.getParameterTypes()) {
            text.append(text.charAt(text.length() - 1) == '(' ? "" : ",").append(type);
        }
        return text.append(")").toString();
    }

    private static void constants() {
        for (Field field : TellingBench.class.getDeclaredFields()) {
            boolean open = !Modifier.isPrivate(field.getModifiers());
            DUE.is("field " + field.getName(), open, field.getName().equals("NONE"));
        }
    }

    private static void fields(Class<?> asked) {
        int ofObjects = 0;
        for (Field field : asked.getDeclaredFields()) {
            if (!Modifier.isStatic(field.getModifiers())) {
                ofObjects++;
                continue;
            }
            DUE.yes("final, as static: " + field, Modifier.isFinal(field.getModifiers()));
            DUE.yes("a type for static fields: " + field, isStaticType(field.getType()));
        }
        DUE.yes("at most " + MOST_FIELDS + " fields: " + asked, ofObjects <= MOST_FIELDS);
    }

    private static boolean isStaticType(Class<?> type) {
        return STATIC_TYPES.contains(type) || type.isEnum() || type.isArray() && type.getComponentType().isEnum();
    }

    private static void methods(Class<?> asked) {
        Set<String> open = new TreeSet<>();
        for (Method method : TellingBench.class.getDeclaredMethods()) {
            if (Modifier.isPublic(method.getModifiers())) {
                open.add(method.getName());
            }
        }
        for (Method method : asked.getDeclaredMethods()) {
            DUE.yes("a private name of its own: " + method,
                !Modifier.isPrivate(method.getModifiers()) || !open.contains(method.getName()));
            DUE.yes("at most " + MOST_PARAMETERS + " parameters: " + method, method.getParameterCount() <= MOST_PARAMETERS);
        }
    }

    private static void nestedClasses() {
        Class<?>[] all = TellingBench.class.getDeclaredClasses();
        DUE.yes("at most " + MOST_CLASSES + " classes", all.length < MOST_CLASSES);
        for (Class<?> nested : all) {
            int modifiers = nested.getModifiers();
            DUE.yes("static: " + nested, Modifier.isStatic(modifiers));
            DUE.no("open: " + nested, Modifier.isPublic(modifiers) || Modifier.isProtected(modifiers));
            fields(nested);
            methods(nested);
        }
    }

    private static void source() throws IOException {
        String text = Files.readString(Path.of("src/main/java/TellingBench.java"));
        String code = Pattern.compile("/\\*.*?\\*/", Pattern.DOTALL).matcher(text).replaceAll("");
        code = code.replaceAll("//[^\n]*", "");
        for (String refused : REFUSED) {
            DUE.no("the source has " + refused, Pattern.compile(refused, Pattern.MULTILINE).matcher(code).find());
        }
        DUE.yes("plain signs alone", text.chars().allMatch(c -> c < 128));
    }
}
