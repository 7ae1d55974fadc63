import java.io.IOException;
import java.lang.reflect.Constructor;
import java.lang.reflect.Field;
import java.lang.reflect.Method;
import java.lang.reflect.Modifier;
import java.nio.file.Files;
import java.nio.file.Path;
import java.util.Arrays;
import java.util.Set;
import java.util.TreeSet;
import java.util.regex.Matcher;
import java.util.regex.Pattern;

/** The public face as the document has it, and those rules of LANGUAGE.md that can be read off the source. */
public final class FaceTest {
    private static final Set<String> METHODS = new TreeSet<>(Arrays.asList(
            "int track(boolean)", "int insert(int,int,int)", "int remove(int,int,int)",
            "int set(int,int,int,int)", "int accept(int)", "int reject(int)", "int settle(int,boolean)",
            "int type(char)", "int clearText()", "int run(int)", "int undo()", "int size(int,int)",
            "int cell(int,int,int)", "int line(int,int,int)", "int setting(int,int,int)",
            "int change(int,int)", "int restsOn(int,int)", "int pending(int)", "int author(int,int)",
            "int sum(int)", "int count(int)"));
    private static final Set<String> FIELDS = new TreeSet<>(Arrays.asList(
            "UNKNOWN", "BAD_VALUE", "FULL", "NOT_POSSIBLE", "NONE", "UNTRACKED"));
    private static final String FORBIDDEN = "\\b(throw|throws|try|catch|synchronized|assert|import|package|"
            + "instanceof|Object|random|System\\.(out|err|in|nanoTime|currentTimeMillis))\\b|->|::|@";

    public static void main(String[] args) throws IOException {
        Class<TrackedTable> face = TrackedTable.class;
        Due.is("public and final", face.getModifiers(), Modifier.PUBLIC | Modifier.FINAL);
        same("methods", METHODS, methods(face));
        same("fields", FIELDS, fields(face));
        Constructor<?>[] constructors = face.getDeclaredConstructors();
        Due.is("constructors", constructors.length, 1);
        Due.is("its parameters", constructors[0].getParameterCount(), 0);
        Due.is("its modifiers", constructors[0].getModifiers(), Modifier.PUBLIC);
        for (Class<?> inside : face.getDeclaredClasses()) {
            Due.is(inside + " static", Modifier.isStatic(inside.getModifiers()) ? 1 : 0, 1);
            Due.is(inside + " public", Modifier.isPublic(inside.getModifiers()) ? 1 : 0, 0);
        }
        limits(face);
        for (Class<?> inside : face.getDeclaredClasses()) {
            limits(inside);
        }
        Due.is("more than twelve classes", face.getDeclaredClasses().length + 1 > 12 ? 1 : 0, 0);
        source(Path.of(args[0]));
        asInTheDocument(Files.readString(Path.of("../shared/DOC.md")), Files.readString(Path.of(args[0])));
        sections(Files.readString(Path.of(args[0])));
        Due.finish();
    }

    private static void same(String what, Set<String> want, Set<String> got) {
        Due.is(what + " " + got, got.equals(want) ? 1 : 0, 1);
    }

    private static Set<String> methods(Class<?> face) {
        Set<String> all = new TreeSet<>();
        for (Method method : face.getDeclaredMethods()) {
            if (!Modifier.isPrivate(method.getModifiers())) {
                String text = method.getReturnType() + " " + method.getName() + "(";
                for (Class<?> parameter : method.getParameterTypes()) {
                    text += (text.endsWith("(") ? "" : ",") + parameter;
                }
                all.add(text + ")");
            }
        }
        return all;
    }

    private static Set<String> fields(Class<?> face) {
        Set<String> all = new TreeSet<>();
        for (Field field : face.getDeclaredFields()) {
            if (!Modifier.isPrivate(field.getModifiers())) {
                all.add(field.getName());
            }
            boolean constant = Modifier.isFinal(field.getModifiers());
            Due.is(field + " static and not final", Modifier.isStatic(field.getModifiers()) && !constant ? 1 : 0, 0);
        }
        return all;
    }

    /** Rules 1 and 11: names of the face are the face's alone; few parameters and few fields. */
    private static void limits(Class<?> of) {
        for (Method method : of.getDeclaredMethods()) {
            boolean ofFace = METHODS.stream().anyMatch(text -> text.startsWith("int " + method.getName() + "("));
            boolean isFace = Modifier.isPublic(method.getModifiers());
            Due.is(method + " bears a name of the face", ofFace && !isFace ? 1 : 0, 0);
            Due.is(method + " has too many parameters", method.getParameterCount() > 7 ? 1 : 0, 0);
        }
        int fields = 0;
        for (Field field : of.getDeclaredFields()) {
            fields += Modifier.isStatic(field.getModifiers()) ? 0 : 1;
        }
        Due.is(of + " has too many fields", fields > 20 ? 1 : 0, 0);
    }

    private static void source(Path file) throws IOException {
        String code = Files.readString(file).replaceAll("(?s)/\\*.*?\\*/", "").replaceAll("//[^\n]*", "");
        Matcher forbidden = Pattern.compile(FORBIDDEN).matcher(code);
        while (forbidden.find()) {
            Due.is("the source has '" + forbidden.group() + "', which", 1, 0);
        }
        for (char sign : code.toCharArray()) {
            if (sign > 126) {
                Due.is("the source has sign " + (int) sign + ", which", 1, 0);
            }
        }
    }

    /** Each line of the document's face stands in the source, in the document's order. */
    private static void asInTheDocument(String document, String source) {
        String face = document.substring(document.indexOf("```java") + 7);
        int at = 0;
        for (String line : face.substring(0, face.indexOf("```")).split("\n")) {
            boolean call = line.endsWith(");");
            String want = call ? line.substring(0, line.length() - 1) + " {" : line;
            if (!want.isBlank()) {
                int found = source.indexOf(want, at);
                Due.is("the place of '" + want + "' told", found >= 0 ? 1 : 0, 1);
                at = Math.max(at, found);
            }
        }
    }

    /** "Ahead of the calls .. the interface says: ---- .." */
    private static void sections(String source) {
        StringBuilder told = new StringBuilder();
        Matcher heads = Pattern.compile("(?m)^    (?:// ---- (.*)|public int (\\w+)\\(.*)$").matcher(source);
        while (heads.find()) {
            told.append(heads.group(2) == null ? "\n" + heads.group(1) + ":" : " " + heads.group(2));
        }
        Due.same("sections", told.toString(), "\nmaking changes: track insert remove set"
                + "\naccepting, rejecting: accept reject settle"
                + "\norders: type clearText run undo"
                + "\nwhat is told: size cell line setting change restsOn pending author sum count"
                + "\nwhat the calls share:");
    }
}
