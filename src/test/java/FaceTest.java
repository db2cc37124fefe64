import java.io.IOException;
import java.lang.reflect.Constructor;
import java.lang.reflect.Field;
import java.lang.reflect.Member;
import java.lang.reflect.Method;
import java.lang.reflect.Modifier;
import java.nio.file.Files;
import java.nio.file.Path;
import java.util.Set;
import java.util.TreeSet;
import java.util.regex.Pattern;

/** The document's face and no more, and some of the rules of LANGUAGE.md that can be read off. */
public final class FaceTest {
    private static final Due DUE = new Due("FaceTest");

    private static final Set<String> FACE = Set.of(
        "boolean world(int,int,int,int)", "boolean weight(int,int,int,int,int)", "int told(int,int)",
        "boolean mix(int,int,int)", "boolean tell(int,int)", "boolean law(int,int,int)",
        "boolean plain(int,int)", "int number(int,int)", "int sign(int,int)",
        "int compare(int,int,int,int)", "int near(int,int)", "int always(int,int)",
        "int breaks(int,int)", "boolean prove(int)", "int share(int,int)", "int mean(int,int)",
        "boolean words(int,int)", "int secret(int,int)");

    /** Outside the language: rules 2, 4, 6 and 13. */
    private static final String[] REFUSED = {
        "\\bthrow\\b", "\\bthrows\\b", "\\btry\\b", "\\bcatch\\b", "\\bfinally\\b", "\\bsynchronized\\b",
        "\\bassert\\b", "^(?!.*\\b(case|default)\\b).*->", "::", "Exact\\b", "\\bBigInteger\\b",
        "\\bSystem\\.(?!arraycopy)", "\\bpackage\\b", "^import (?!java\\.util\\.(Arrays|ArrayList|List|Iterator);)",
        "\\bMath\\.(?!abs|max|min|floorDiv|floorMod|multiplyHigh|multiplyFull)",
    };

    public static void main(String[] args) throws IOException {
        face();
        constants();
        nestedClasses();
        source();
        DUE.end();
    }

    private static void face() {
        DUE.yes("public and final", Modifier.isPublic(TellingBench.class.getModifiers())
            && Modifier.isFinal(TellingBench.class.getModifiers()));
        Set<String> seen = new TreeSet<>();
        Set<String> names = new TreeSet<>();
        for (Method method : TellingBench.class.getDeclaredMethods()) {
            if (!Modifier.isPrivate(method.getModifiers())) {
                seen.add(form(method));
                names.add(method.getName());
            }
        }
        DUE.yes("the methods: " + seen, seen.equals(new TreeSet<>(FACE)));
        for (Method method : TellingBench.class.getDeclaredMethods()) {
            DUE.yes("a private name of its own: " + method.getName(),
                !Modifier.isPrivate(method.getModifiers()) || !names.contains(method.getName()));
        }
        Constructor<?>[] makers = TellingBench.class.getDeclaredConstructors();
        DUE.is("constructors", makers.length, 1);
        DUE.is("its parameters", makers[0].getParameterCount(), 0);
        DUE.yes("it is public", Modifier.isPublic(makers[0].getModifiers()));
    }

    private static String form(Method method) {
        StringBuilder text = new StringBuilder(method.getReturnType() + " " + method.getName() + "(");
        for (Class<?> type : method.getParameterTypes()) {
            text.append(text.charAt(text.length() - 1) == '(' ? "" : ",").append(type);
        }
        return text.append(")").toString();
    }

    private static void constants() {
        for (Field field : TellingBench.class.getDeclaredFields()) {
            boolean open = !Modifier.isPrivate(field.getModifiers());
            DUE.is("field " + field.getName(), open, field.getName().equals("NONE"));
            staticIsFinal(field, field.getModifiers());
        }
    }

    private static void staticIsFinal(Member member, int modifiers) {
        DUE.yes("final if static: " + member.getName(), !Modifier.isStatic(modifiers) || Modifier.isFinal(modifiers));
    }

    private static void nestedClasses() {
        for (Class<?> nested : TellingBench.class.getDeclaredClasses()) {
            int modifiers = nested.getModifiers();
            DUE.yes("static: " + nested, Modifier.isStatic(modifiers));
            DUE.no("open: " + nested, Modifier.isPublic(modifiers) || Modifier.isProtected(modifiers));
            for (Field field : nested.getDeclaredFields()) {
                staticIsFinal(field, field.getModifiers());
            }
        }
    }

    private static void source() throws IOException {
        String text = Files.readString(Path.of("src/main/java/TellingBench.java"));
        String code = Pattern.compile("/\\*.*?\\*/", Pattern.DOTALL).matcher(text).replaceAll("");
        code = code.replaceAll("//[^\n]*", "");
        for (String refused : REFUSED) {
            DUE.no("the source has " + refused, Pattern.compile(refused, Pattern.MULTILINE).matcher(code).find());
        }
        DUE.yes("plain signs alone", text.chars().allMatch(c -> c < 128));
    }
}
