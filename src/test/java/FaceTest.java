import java.io.IOException;
import java.lang.reflect.Constructor;
import java.lang.reflect.Field;
import java.lang.reflect.Method;
import java.lang.reflect.Modifier;
import java.nio.file.Files;
import java.nio.file.Path;
import java.util.Arrays;
import java.util.Map;
import java.util.Set;
import java.util.TreeMap;
import java.util.regex.Matcher;
import java.util.regex.Pattern;

/** The public face as the document gives it, and what the rules of the language leave out. */
public final class FaceTest {
    private static final Path SOURCE = Path.of("src/main/java/SameAgain.java");
    private static final Path DOC = Path.of("../shared/DOC.md");
    private static final String METHODS = "say1 wipe0 line0 change1 version0 sign3 alike5 longest3 like4 groups4 whole4"
        + " pulled5 best3 two2 forgotten5 parted4 mends4 mend6 far3 near3 image1 restore1 told1";
    private static final String[] LEFT_OUT = {"\\bimport\\b", "\\bpackage\\b", "->", "::", "\\bcatch\\b", "\\bfinally\\b",
        "\\bthrow\\b", "\\bassert\\b", "\\bsynchronized\\b", "\\bprotected\\b", "\\bSystem\\.(?!arraycopy)", "Exact\\(",
        "\\bnull\\b", "\\bMath\\.(?!min|max|abs)", "\\bInteger\\.(?!bitCount)", " / 0", "@"};

    private static final Due due = new Due();

    public static void main(String[] args) throws IOException {
        constants();
        members();
        classesInside();
        fewFields(SameAgain.class);
        source();
        faceAsTheDocumentWritesIt();
        due.end();
    }

    private static void constants() {
        due.is("NONE", SameAgain.NONE, -6);
        due.is("UNKNOWN", SameAgain.UNKNOWN, -1);
        due.is("OUTSIDE", SameAgain.OUTSIDE, -2);
        due.is("STATE", SameAgain.STATE, -3);
        due.is("FULL", SameAgain.FULL, -4);
        due.is("NO", SameAgain.NO, -5);
    }

    private static void members() {
        due.is("the class's modifiers", SameAgain.class.getModifiers(), Modifier.PUBLIC | Modifier.FINAL);
        Map<String, Integer> want = new TreeMap<>();
        for (String method : METHODS.split(" ")) {
            want.put(method.replaceAll("[0-9]", ""), method.charAt(method.length() - 1) - '0');
        }
        for (Method method : SameAgain.class.getDeclaredMethods()) {
            Integer parameters = want.get(method.getName());
            if (parameters == null) {
                due.holds(method + " is private", Modifier.isPrivate(method.getModifiers()));
                continue;
            }
            want.remove(method.getName());
            due.is(method + ": modifiers", method.getModifiers(), Modifier.PUBLIC);
            due.is(method + ": parameters", method.getParameterCount(), parameters);
            due.holds(method + " takes and answers int", method.getReturnType() == int.class
                && Arrays.stream(method.getParameterTypes()).allMatch(t -> t == int.class));
        }
        due.holds("methods that are missing: " + want, want.isEmpty());
        Set<String> constants = Set.of("NONE", "UNKNOWN", "OUTSIDE", "STATE", "FULL", "NO");
        for (Field field : SameAgain.class.getDeclaredFields()) {
            due.is(field + " is private, or one of the document's", Modifier.isPrivate(field.getModifiers()) ? 0 : 1,
                constants.contains(field.getName()) ? 1 : 0);
        }
        Constructor<?>[] constructors = SameAgain.class.getDeclaredConstructors();
        due.is("constructors", constructors.length, 1);
        due.is("the constructor's parameters", constructors[0].getParameterCount(), 0);
        due.holds("the constructor is public", Modifier.isPublic(constructors[0].getModifiers()));
    }

    private static void classesInside() {
        Class<?>[] inside = SameAgain.class.getDeclaredClasses();
        due.holds("at most twelve classes", inside.length < 12);
        for (Class<?> c : inside) {
            due.holds(c + " is static", Modifier.isStatic(c.getModifiers()));
            due.holds(c + " is not public", !Modifier.isPublic(c.getModifiers()));
            fewFields(c);
            for (Method method : c.getDeclaredMethods()) {
                due.holds(method + " bears a name of the face",
                    !(" " + METHODS).matches(".* " + method.getName() + "[0-9].*"));
                due.holds(method + " has at most seven parameters", method.getParameterCount() <= 7);
            }
            for (Field field : c.getDeclaredFields()) {
                boolean isConstant = Modifier.isFinal(field.getModifiers()) && field.getType() == int.class;
                due.holds(field + " is a constant, if it is static", !Modifier.isStatic(field.getModifiers()) || isConstant);
            }
        }
    }

    private static void fewFields(Class<?> c) {
        long fields = Arrays.stream(c.getDeclaredFields()).filter(f -> !Modifier.isStatic(f.getModifiers())).count();
        due.holds(c + " has at most twenty fields beside its constants", fields <= 20);
    }

    /** The names of parameters are not kept in the compiled class, so the two texts are laid side by side. */
    private static void faceAsTheDocumentWritesIt() throws IOException {
        String source = Files.readString(SOURCE);
        String doc = Files.readString(DOC);
        String face = doc.substring(doc.indexOf("```java") + 8, doc.indexOf("```\n", doc.indexOf("```java") + 8));
        int members = 0;
        for (String line : face.split("\n")) {
            String member = line.trim();
            if (member.startsWith("public ")) {
                String inSource = member.endsWith(");") ? member.replace(";", " {") : member;
                due.holds("the source has not: " + inSource, source.contains(inSource + "\n"));
                members++;
            }
        }
        due.is("members of the document's face, with the class", members, 26);
    }

    private static void source() throws IOException {
        String text = Files.readString(SOURCE);
        due.holds("the source has a sign that is not ASCII", text.chars().allMatch(sign -> sign < 127));
        String code = text.replaceAll("(?s)/\\*.*?\\*/", "").replaceAll("//[^\\n]*", "");
        for (String leftOut : LEFT_OUT) {
            Matcher found = Pattern.compile(leftOut).matcher(code);
            due.holds("the source has " + leftOut, !found.find());
        }
        int start = 0;
        String[] lines = text.split("\n");
        for (int i = 0; i < lines.length; i++) {
            due.holds("line " + (i + 1) + " is too long", lines[i].length() <= 120);
            if (lines[i].matches(" {4,8}\\S.*\\) \\{")) {
                start = i;
            }
            if (lines[i].matches(" {4,8}\\}")) {
                due.holds("the method at line " + (start + 1) + " is too long", i - start <= 60 || start == 0);
                start = 0;
            }
        }
    }
}
