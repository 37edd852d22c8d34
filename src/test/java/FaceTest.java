import java.io.IOException;
import java.lang.reflect.Field;
import java.lang.reflect.Method;
import java.lang.reflect.Modifier;
import java.nio.file.Files;
import java.nio.file.Path;
import java.util.Arrays;
import java.util.HashSet;
import java.util.Set;
import java.util.TreeSet;
import java.util.regex.Matcher;
import java.util.regex.Pattern;

/** The public face, and the rules of LANGUAGE.md that reflection or the text can show. */
final class FaceTest {
    private static final String[] FACE = {
        "int table(int,int,int,int)", "int ofGuest(int,int)", "int ofDish(int,int)",
        "int whose(int)", "int land(int)", "int chew(int,int)", "int cook(int)",
        "int rate(int,int)", "int carry(int,int)", "int pass(int)",
        "int dinner(int,int,int,int,int)", "int ask(int,int,int)", "int treaty(int)",
        "int game(int,int,int)", "int spilt(int)", "long home(int)", "int reading(int,int)",
        "int back(int)", "int mouths(int)", "int kinds(int)", "int soups()",
        "long odds(int,int,int,int)", "int sheet(int,int,int)", "int lose(int)",
        "int put(int,int,int)", "long cell(int,int,int)", "int copy(int,int,int,int,int)",
        "int tell(int)", "int toast(int)", "int as(int,int)", "int trace()", "int fault()",
        "int many(int)",
    };

    public static void main(String[] args) throws IOException {
        constants();
        methods();
        nested();
        text(Files.readString(Path.of("src/main/java/SaltBorder.java")));
        Check.finish();
    }

    private static void constants() {
        Check.due("UNKNOWN", SaltBorder.UNKNOWN, -1);
        Check.due("OUTSIDE", SaltBorder.OUTSIDE, -2);
        Check.due("STATE", SaltBorder.STATE, -3);
        Check.due("FULL", SaltBorder.FULL, -4);
        Check.due("NONE", SaltBorder.NONE, -9);
        Check.due("LOST", SaltBorder.LOST, Long.MIN_VALUE);
        Set<String> open = new TreeSet<>();
        for (Field f : SaltBorder.class.getDeclaredFields()) {
            if (!Modifier.isPrivate(f.getModifiers())) {
                open.add(f.getName());
            }
        }
        Check.isSo("open fields " + open, open.equals(new TreeSet<>(
                Arrays.asList("UNKNOWN", "OUTSIDE", "STATE", "FULL", "NONE", "LOST"))));
    }

    private static void methods() {
        Set<String> open = new TreeSet<>();
        Set<String> names = new HashSet<>();
        for (Method m : SaltBorder.class.getDeclaredMethods()) {
            if (!Modifier.isPrivate(m.getModifiers())) {
                open.add(signature(m));
                names.add(m.getName());
            }
        }
        Check.isSo("the face is " + open, open.equals(new TreeSet<>(Arrays.asList(FACE))));
        Check.due("constructors", SaltBorder.class.getDeclaredConstructors().length, 1);
        Check.isSo("final", Modifier.isFinal(SaltBorder.class.getModifiers()));
        for (Method m : SaltBorder.class.getDeclaredMethods()) {
            boolean isPrivate = Modifier.isPrivate(m.getModifiers());
            Check.isSo(m.getName() + " is of the face", !isPrivate || !names.contains(m.getName()));
        }
        for (Class<?> part : SaltBorder.class.getDeclaredClasses()) {
            for (Method m : part.getDeclaredMethods()) {
                Check.isSo(m.getName() + " is of the face", !names.contains(m.getName()));
            }
        }
    }

    private static String signature(Method m) {
        StringBuilder s = new StringBuilder(m.getReturnType().getName()).append(' ');
        s.append(m.getName()).append('(');
        for (Class<?> type : m.getParameterTypes()) {
            s.append(s.charAt(s.length() - 1) == '(' ? "" : ",").append(type.getName());
        }
        return s.append(')').toString();
    }

    private static void nested() {
        Class<?>[] parts = SaltBorder.class.getDeclaredClasses();
        Check.isSo("at most twelve classes", parts.length < 12);
        for (Class<?> part : parts) {
            Check.isSo(part + " is static", Modifier.isStatic(part.getModifiers()));
            Check.isSo(part + " is not public", !Modifier.isPublic(part.getModifiers()));
            for (Field f : part.getDeclaredFields()) {
                boolean isStatic = Modifier.isStatic(f.getModifiers());
                Check.isSo(f + " is final", !isStatic || Modifier.isFinal(f.getModifiers()));
            }
            for (Method m : part.getDeclaredMethods()) {
                Check.isSo(m + " has seven parameters at most", m.getParameterCount() <= 7);
            }
        }
    }

    private static void text(String source) {
        String code = source.replaceAll("(?s)/\\*.*?\\*/", "").replaceAll("//[^\n]*", "");
        String[] banned = {
            "throw", "throws", "try", "catch", "synchronized", "assert", "Object", "Exact",
            "static \\{", "->", "::", "protected", "package", "\"",
        };
        for (String word : banned) {
            String edge = Character.isLetter(word.charAt(0)) ? "\\b" : "";
            boolean found = Pattern.compile(edge + word + edge).matcher(code).find();
            Check.isSo("no " + word, !found);
        }
        Matcher imports = Pattern.compile("import ([^;]+);").matcher(code);
        while (imports.find()) {
            Check.isSo(imports.group(1), imports.group(1).equals("java.util.Arrays"));
        }
        // Calls make nothing: every "new" is a field's, or stands in the constructor.
        for (String line : code.split("\n")) {
            boolean isField = line.matches(" +(private )?(final )?[A-Za-z\\[\\]]+ [a-zA-Z]+ = new .*;");
            boolean isSheet = line.trim().equals("sheets[k] = new Sheet();");
            Check.isSo("made once: " + line, !line.contains("new ") || isField || isSheet);
        }
        for (char c : source.toCharArray()) {
            Check.isSo("a sign of 1 to 127", c > 0 && c < 128);
        }
        library(code);
        methodsAreShort(source);
    }

    /** Rule 4: only what stands there. */
    private static void library(String code) {
        Set<String> taken = new HashSet<>(Arrays.asList("Arrays.fill", "Arrays.copyOf", "Arrays.copyOfRange",
                "System.arraycopy", "Integer.bitCount", "Math.max", "Math.min", "Math.abs", "Long.MIN_VALUE"));
        Matcher used = Pattern.compile("\\b(Arrays|System|Integer|Long|Math|String|List)\\.\\w+").matcher(
                code.replaceAll("import [^;]+;", ""));
        while (used.find()) {
            Check.isSo(used.group() + " stands in rule 4", taken.contains(used.group()));
        }
    }

    /** Rule 11: some sixty lines at most. */
    private static void methodsAreShort(String source) {
        Matcher method = Pattern.compile("(?ms)^( {4}| {8})[A-Za-z][^;={}]*\\) \\{$.*?^\\1\\}$").matcher(source);
        int found = 0;
        while (method.find()) {
            found++;
            Check.isSo("short: " + method.group(), method.group().split("\n").length <= 60);
        }
        Check.isSo("methods are found: " + found, found > FACE.length);
    }
}
