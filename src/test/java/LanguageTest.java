import java.io.IOException;
import java.lang.reflect.Constructor;
import java.lang.reflect.Field;
import java.lang.reflect.Method;
import java.lang.reflect.Modifier;
import java.nio.file.Files;
import java.nio.file.Path;
import java.util.Set;
import java.util.TreeSet;
import java.util.regex.Matcher;
import java.util.regex.Pattern;

/** Rules of ../shared/LANGUAGE.md that a look at the file and the class can tell. */
public final class LanguageTest {
    private static final Set<String> FACE = Set.of(
        "int code(int,int)", "int load(int,long)", "int word(int)", "int put(int,int)", "int data(int)",
        "int told(int)", "int go(int)", "int ask(int)", "int step()", "int run(int)", "int ended()",
        "int reads(int,int)", "int digest()", "int count(int)");
    private static final Set<String> CONSTANTS = Set.of("BAD", "NONE", "DONE", "ENTERED", "ILLEGAL", "BEYOND");
    private static final Pattern NOT_ALLOWED = Pattern.compile(
        "\\b(throw|throws|try|catch|finally|synchronized|assert|import|package|volatile|native|extends|var)\\b|->|::"
        + "|@|\"|Exact\\b|\\bSystem\\.(?!arraycopy)|\\bstatic\\s*\\{|\\bThread\\b|\\bRandom\\b");

    private static void theFace() {
        Set<String> names = new TreeSet<>();
        for (Method m : FlagCore.class.getDeclaredMethods()) {
            if (Modifier.isPublic(m.getModifiers())) {
                names.add(signature(m));
            } else {
                Check.due("private is " + m, Modifier.isPrivate(m.getModifiers()) ? 1 : 0, 1);
            }
        }
        Check.due("the public methods are " + names, names.equals(FACE) ? 1 : 0, 1);
        for (Field f : FlagCore.class.getDeclaredFields()) {
            int how = f.getModifiers();
            Check.due("of the face or private is " + f,
                CONSTANTS.contains(f.getName()) ? how : Modifier.isPrivate(how) ? 1 : 0,
                CONSTANTS.contains(f.getName()) ? Modifier.PUBLIC | Modifier.STATIC | Modifier.FINAL : 1);
            Check.due("final if static is " + f, Modifier.isStatic(how) && !Modifier.isFinal(how) ? 1 : 0, 0);
        }
        Constructor<?>[] made = FlagCore.class.getDeclaredConstructors();
        Check.due("constructors", made.length, 1);
        Check.due("constructor's numbers", made[0].getParameterCount(), 0);
        Check.due("final class", FlagCore.class.getModifiers(), Modifier.PUBLIC | Modifier.FINAL);
    }

    private static String signature(Method m) {
        StringBuilder b = new StringBuilder();
        b.append(m.getReturnType().getName()).append(' ').append(m.getName()).append('(');
        for (int i = 0; i < m.getParameterCount(); i++) {
            b.append(i == 0 ? "" : ",").append(m.getParameterTypes()[i].getName());
        }
        return b.append(')').toString();
    }

    private static void privateNamesAreApart() {
        Set<String> faceNames = new TreeSet<>();
        for (String s : FACE) {
            faceNames.add(s.substring(4, s.indexOf('(')));
        }
        for (Method m : FlagCore.class.getDeclaredMethods()) {
            boolean shared = !Modifier.isPublic(m.getModifiers()) && faceNames.contains(m.getName());
            Check.due("a name of the face is borne by " + m, shared ? 1 : 0, 0);
        }
        for (Class<?> c : FlagCore.class.getDeclaredClasses()) {
            Check.due("static is " + c, Modifier.isStatic(c.getModifiers()) ? 1 : 0, 1);
            Check.due("public is " + c, Modifier.isPublic(c.getModifiers()) ? 1 : 0, 0);
        }
        Check.due("at most twelve classes", FlagCore.class.getDeclaredClasses().length < 12 ? 1 : 0, 1);
    }

    private static void theText() throws IOException {
        String text = Files.readString(Path.of("src/main/java/FlagCore.java"));
        String bare = text.replaceAll("(?s)/\\*.*?\\*/", " ").replaceAll("//[^\n]*", " ");
        Matcher m = NOT_ALLOWED.matcher(bare);
        Check.due("what is not allowed: " + (m.find() ? m.group() : "nothing"), m.reset().find() ? 1 : 0, 0);
        int lines = 0;
        for (String line : text.split("\n")) {
            boolean ofMethod = line.matches(" {4,8}[\\w \\[\\]]+\\(.*\\) \\{");
            lines = ofMethod ? 0 : lines + 1;
            if (line.equals("    }") || line.equals("        }")) {
                Check.due("lines of a method", lines <= 60 || line.equals("    }") ? 1 : 0, 1);
            }
        }
    }

    public static void main(String[] args) throws IOException {
        theFace();
        privateNamesAreApart();
        theText();
        Check.finish("LanguageTest");
    }
}
