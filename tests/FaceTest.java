import java.io.IOException;
import java.lang.reflect.Constructor;
import java.lang.reflect.Field;
import java.lang.reflect.Method;
import java.lang.reflect.Modifier;
import java.nio.file.Files;
import java.nio.file.Path;
import java.util.Arrays;
import java.util.Set;
import java.util.TreeSet;
import java.util.regex.Matcher;
import java.util.regex.Pattern;

/** The public face is the document's, and the file keeps to what of LANGUAGE.md can be seen from outside. */
public final class FaceTest {
    private static final String FACE = """
            int moon(int) IllegalArgumentException
            double surge(int) IllegalArgumentException
            int gates(int) IllegalArgumentException IllegalStateException
            int sluice(int) IllegalArgumentException
            boolean scour(boolean)
            boolean hours(int int) IllegalArgumentException
            boolean lock(boolean)
            int bell()
            int pair() IllegalStateException
            int lot(int int int int) IllegalArgumentException IllegalStateException
            int feed(int int) IndexOutOfBoundsException IllegalStateException
            int take(int) IndexOutOfBoundsException IllegalStateException
            int dress(int) IndexOutOfBoundsException IllegalStateException
            int give(int) IndexOutOfBoundsException IllegalStateException
            int pass(int) IllegalArgumentException IllegalStateException
            double sea(int) IllegalArgumentException
            double pond(int) IllegalArgumentException
            int ofPair(int int) IndexOutOfBoundsException IllegalArgumentException
            double dull(int) IndexOutOfBoundsException
            int ofLot(int int) IndexOutOfBoundsException IllegalArgumentException
            double left(int) IndexOutOfBoundsException
            int many(int) IllegalArgumentException
            int ofOwner(int boolean) IndexOutOfBoundsException
            int high()
            double wouldLevel(int) IllegalArgumentException
            int wouldDone(int) IndexOutOfBoundsException
            int best(int) IllegalArgumentException
            long digest()
            """;

    /** What LANGUAGE.md rules out, as far as a word tells it. */
    private static final String[] RULED_OUT = {
        "\\bimport\\b", "\\bpackage\\b", "->", "::", "\\bfinally\\b", "\\btry\\b", "\\bcatch\\b", "\\bsynchronized\\b",
        "\\bassert\\b", "\\bprotected\\b", "\\bnative\\b", "Exact\\b", "\\bObject\\b", "\\bvar\\b", "\\bjava\\.",
        "\\bstatic\\s*\\{", "\\bMath\\.(?!max|min|abs|floorDiv|floorMod)", "\\bSystem\\.(?!arraycopy)", "[^\\x00-\\x7f]",
        "\\bstatic final (double|float|short|Integer)\\b", "\\bstatic (int|long|double|float|boolean|char|String) \\w+( =|;)",
        "\\bgetMessage\\b", "\\bhashCode\\b", "\\btoString\\b", "\\bequals\\b", "% *[0-9]+\\.[0-9]",
    };

    public static void main(String[] args) throws IOException {
        methods();
        rest();
        words(Files.readString(Path.of(args[0])));
        Check.finish("FaceTest");
    }

    private static void methods() {
        Set<String> due = new TreeSet<>(Arrays.asList(FACE.split("\n")));
        Set<String> got = new TreeSet<>();
        Set<String> names = new TreeSet<>();
        for (Method method : TideMill.class.getDeclaredMethods()) {
            if (Modifier.isPublic(method.getModifiers())) {
                got.add(lineOf(method));
                names.add(method.getName());
            } else {
                Check.same(method + " is private", Modifier.isPrivate(method.getModifiers()), true);
            }
        }
        Check.same("the face", String.join("\n", got), String.join("\n", due));
        for (Method method : TideMill.class.getDeclaredMethods()) {
            boolean isPublic = Modifier.isPublic(method.getModifiers());
            Check.same(method + " has a name of its own", isPublic || !names.contains(method.getName()), true);
        }
    }

    private static String lineOf(Method method) {
        StringBuilder line = new StringBuilder();
        line.append(method.getReturnType().getSimpleName()).append(' ').append(method.getName()).append('(');
        for (Class<?> type : method.getParameterTypes()) {
            line.append(line.charAt(line.length() - 1) == '(' ? "" : " ").append(type.getSimpleName());
        }
        line.append(')');
        for (Class<?> type : method.getExceptionTypes()) {
            line.append(' ').append(type.getSimpleName());
        }
        return line.toString();
    }

    private static void rest() {
        int modifiers = TideMill.class.getModifiers();
        Check.same("the class is public and final", Modifier.isPublic(modifiers) && Modifier.isFinal(modifiers), true);
        Constructor<?>[] constructors = TideMill.class.getDeclaredConstructors();
        Check.same("constructors", constructors.length, 1);
        Check.same("1: TideMill()", constructors[0].toString(), "public TideMill()");
        for (Field field : TideMill.class.getDeclaredFields()) {
            Check.same(field + " is private", Modifier.isPrivate(field.getModifiers()), true);
        }
        for (Class<?> inside : TideMill.class.getDeclaredClasses()) {
            int of = inside.getModifiers();
            Check.same(inside + " is static and hidden",
                    Modifier.isStatic(of) && !Modifier.isPublic(of) && !Modifier.isProtected(of), true);
        }
    }

    private static void words(String source) {
        String code = source.replaceAll("(?s)/\\*.*?\\*/", "").replaceAll("//[^\n]*", "");
        for (String word : RULED_OUT) {
            Matcher matcher = Pattern.compile(word).matcher(code);
            Check.same("'" + word + "' in the code", matcher.find() ? matcher.group() : "", "");
        }
    }
}
