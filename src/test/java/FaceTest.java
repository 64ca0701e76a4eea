import java.io.IOException;
import java.lang.reflect.Constructor;
import java.lang.reflect.Field;
import java.lang.reflect.Method;
import java.lang.reflect.Modifier;
import java.nio.file.Files;
import java.nio.file.Path;
import java.util.Set;
import java.util.TreeSet;
import java.util.regex.Matcher;
import java.util.regex.Pattern;

/** The public face, numbers of 32 bits alone, and the rules of LANGUAGE.md that a test can see. */
public final class FaceTest {
    private static final Due DUE = new Due("FaceTest");
    private static final Path SOURCE = Path.of("src/main/java/WideHash.java");

    private static final String[] FACE = {
        "public void WideHash.init()",
        "public boolean WideHash.beginSha(int)",
        "public boolean WideHash.sipKey(int,int)",
        "public boolean WideHash.beginSip()",
        "public boolean WideHash.update(int)",
        "public boolean WideHash.updates(int,int,int)",
        "public boolean WideHash.close()",
        "public int WideHash.word(int)",
        "public int WideHash.length()",
        "public int WideHash.state()",
        "public int WideHash.add64Lo(int,int,int,int)",
        "public int WideHash.add64Hi(int,int,int,int)",
        "public int WideHash.rotr64Hi(int,int,int)",
        "public int WideHash.rotr64Lo(int,int,int)",
    };

    public static void main(String[] args) throws IOException {
        face();
        names();
        fields(WideHash.class);
        for (Class<?> inside : WideHash.class.getDeclaredClasses()) {
            DUE.is(inside + " is static", Modifier.isStatic(inside.getModifiers()), true);
            fields(inside);
        }
        source();
        DUE.end();
    }

    private static void face() {
        DUE.same("the class", Modifier.toString(WideHash.class.getModifiers()), "public final");
        DUE.same("what it extends", WideHash.class.getSuperclass().getName(), "java.lang.Object");
        DUE.is("interfaces", WideHash.class.getInterfaces().length, 0);
        Set<String> visible = new TreeSet<>();
        for (Method method : WideHash.class.getDeclaredMethods()) {
            if (!Modifier.isPrivate(method.getModifiers())) {
                visible.add(method.toString());
            }
        }
        DUE.same("the face", visible.toString(), new TreeSet<>(Set.of(FACE)).toString());
        Constructor<?>[] constructors = WideHash.class.getDeclaredConstructors();
        DUE.is("constructors", constructors.length, 1);
        DUE.same("the constructor", constructors[0].toString(), "public WideHash()");
    }

    private static void names() {
        Set<String> open = new TreeSet<>();
        for (Method method : WideHash.class.getMethods()) {
            open.add(method.getName());
        }
        for (Method method : WideHash.class.getDeclaredMethods()) {
            if (Modifier.isPrivate(method.getModifiers())) {
                DUE.is(method + " has a public name", open.contains(method.getName()), false);
            }
        }
    }

    private static void fields(Class<?> owner) {
        for (Field field : owner.getDeclaredFields()) {
            int is = field.getModifiers();
            DUE.is(field + " is private", Modifier.isPrivate(is), true);
            DUE.is(field + " is static, not final", Modifier.isStatic(is) && !Modifier.isFinal(is), false);
        }
    }

    private static void source() throws IOException {
        String code = Files.readString(SOURCE).replaceAll("(?s)/\\*.*?\\*/", "").replaceAll("//[^\n]*", "");
        String[] ruledOut = {"\\blong\\b", "\\bLong\\b", "\\bdouble\\b", "\\bfloat\\b", "\\bimport\\b",
            "\\bpackage\\b", "\\bthrow\\b", "\\bthrows\\b", "\\btry\\b", "\\bcatch\\b", "\\bassert\\b",
            "\\bsynchronized\\b", "->", "::"};
        for (String word : ruledOut) {
            DUE.is("the program has " + word, Pattern.compile(word).matcher(code).find(), false);
        }
        madeOnce(code);
    }

    /** All calls share one room, so rows and objects are made with the object and never by a call. */
    private static void madeOnce(String code) {
        Matcher made = Pattern.compile("[^\n]*\\bnew\\b[^\n]*").matcher(code);
        while (made.find()) {
            DUE.is("made for good:" + made.group(), made.group().trim().startsWith("private final "), true);
        }
    }
}
