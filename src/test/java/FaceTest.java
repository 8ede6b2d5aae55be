import java.io.IOException;
import java.lang.reflect.Constructor;
import java.lang.reflect.Field;
import java.lang.reflect.Method;
import java.lang.reflect.Modifier;
import java.nio.file.Files;
import java.nio.file.Path;
import java.util.Arrays;
import java.util.Set;
import java.util.TreeSet;
import java.util.regex.Matcher;
import java.util.regex.Pattern;

/** The public face, member by member, and those rules of the language that can be seen in the source. */
public final class FaceTest {
    private static final String ARGUMENT = " IllegalArgumentException";
    private static final String STATE = " IllegalStateException";
    private static final String INDEX = " IndexOutOfBoundsException";

    private static final String[] METHODS = {
        "int addCarrier(int, int)" + ARGUMENT + STATE,
        "int moveCarrier(int, int, int)" + INDEX + ARGUMENT,
        "int removeCarrier(int)" + INDEX,
        "int shift(int)" + ARGUMENT + STATE,
        "int setProducts(int, int, int)" + ARGUMENT,
        "int setSpacing(int, int)" + ARGUMENT,
        "int size(int)" + ARGUMENT,
        "int carrier(int, boolean)" + INDEX,
        "long channels()",
        "int products()",
        "int product(int, int)" + INDEX + ARGUMENT,
        "long fallout(int)" + ARGUMENT,
        "int hits()",
        "int hitsOn(int)" + INDEX,
        "boolean isClean()",
        "int closest()",
        "int removal()",
        "int leastSpan(int)" + ARGUMENT,
        "long bestRuler(int)" + ARGUMENT,
        "int rulers(int, int)" + ARGUMENT,
        "long openings(int)" + ARGUMENT,
        "int putIn(int)" + ARGUMENT + STATE,
        "int addMixer(int)" + ARGUMENT + STATE,
        "int setMember(int, int, boolean)" + INDEX,
        "int mixer(int)" + INDEX,
        "int addTest(int, int, boolean)" + ARGUMENT + STATE,
        "int test(int, int)" + INDEX + ARGUMENT,
        "int heard(int, int)" + ARGUMENT,
        "int diagnoses()",
        "int diagnosis()",
        "int certain(boolean)",
        "int bestTest(int)" + ARGUMENT,
        "int append(int)" + ARGUMENT + STATE,
        "int clearText()",
        "int parse()",
        "int undo()" + STATE,
        "long digest()",
    };

    private static final String[] BARRED = {
        "import", "package", "->", "::", "try", "catch", "finally", "synchronized", "assert", "volatile", "transient",
        "native", "System\\.(?!arraycopy)", "Thread", "Random", "Exact\\(", "equals\\(", "hashCode", "toString",
        "float", "double", "var", "protected", "static \\{", "\"\\s*\\+", "\\+\\s*\"", "instanceof", "@",
    };

    /** What the program uses of the library beside its exceptions; all of it stands in the list of the language. */
    private static final Set<String> LIBRARY =
            Set.of("Integer.bitCount", "Math.abs", "Math.max", "Math.min", "System.arraycopy");
    private static final int MOST_PARAMETERS = 7;
    private static final int MOST_FIELDS = 20;
    private static final int MOST_CLASSES = 12;
    private static final int MOST_LINES = 60;

    private FaceTest() {
    }

    public static void main(String[] args) throws IOException {
        members();
        names();
        sizes(ChannelSpacer.class);
        for (Class<?> inner : ChannelSpacer.class.getDeclaredClasses()) {
            sizes(inner);
        }
        if (args.length == 0) {
            Check.complain("the path of the source is missing");
        } else {
            source(Files.readString(Path.of(args[0])));
        }
        Check.end();
    }

    private static String told(Method m) {
        StringBuilder text = new StringBuilder(m.getReturnType().getSimpleName()).append(' ').append(m.getName());
        text.append('(');
        for (int i = 0; i < m.getParameterCount(); i++) {
            text.append(i == 0 ? "" : ", ").append(m.getParameterTypes()[i].getSimpleName());
        }
        text.append(')');
        for (Class<?> e : m.getExceptionTypes()) {
            text.append(' ').append(e.getSimpleName());
        }
        return text.toString();
    }

    private static void members() {
        Class<?> face = ChannelSpacer.class;
        Check.due("modifiers of the class", face.getModifiers(), Modifier.PUBLIC | Modifier.FINAL);
        Set<String> open = new TreeSet<>();
        for (Method m : face.getDeclaredMethods()) {
            if (m.getModifiers() == Modifier.PUBLIC) {
                open.add(told(m));
            } else if (!Modifier.isPrivate(m.getModifiers())) {
                Check.complain("neither private nor of the face: " + m);
            }
        }
        Set<String> due = new TreeSet<>(Arrays.asList(METHODS));
        if (!open.equals(due)) {
            Check.complain("public methods are " + open + ", due are " + due);
        }
        for (Field f : face.getDeclaredFields()) {
            if (!Modifier.isPrivate(f.getModifiers()) && !f.getName().equals("NONE")) {
                Check.complain("not private: " + f);
            }
        }
        for (Constructor<?> c : face.getDeclaredConstructors()) {
            Check.due("a public constructor without parameters", c.getParameterCount() == 0
                    && Modifier.isPublic(c.getModifiers()), true);
        }
        for (Class<?> inner : face.getDeclaredClasses()) {
            Check.due(inner + " is static and private", Modifier.isStatic(inner.getModifiers())
                    && Modifier.isPrivate(inner.getModifiers()), true);
        }
    }

    private static void names() {
        Set<String> open = new TreeSet<>();
        for (String method : METHODS) {
            open.add(method.substring(method.indexOf(' ') + 1, method.indexOf('(')));
        }
        for (Method m : ChannelSpacer.class.getDeclaredMethods()) {
            if (!Modifier.isPublic(m.getModifiers()) && open.contains(m.getName())) {
                Check.complain("a private method with a public name: " + m);
            }
        }
        for (Class<?> inner : ChannelSpacer.class.getDeclaredClasses()) {
            for (Method m : inner.getDeclaredMethods()) {
                if (open.contains(m.getName())) {
                    Check.complain("an inner method with a public name: " + m);
                }
            }
            for (Field f : inner.getDeclaredFields()) {
                if (Modifier.isStatic(f.getModifiers()) && !Modifier.isFinal(f.getModifiers())) {
                    Check.complain("static, but not final: " + f);
                }
            }
        }
    }

    private static void sizes(Class<?> one) {
        int fields = 0;
        for (Field f : one.getDeclaredFields()) {
            fields += Modifier.isStatic(f.getModifiers()) ? 0 : 1;
        }
        Check.due(one + " has too many fields", fields > MOST_FIELDS, false);
        Check.due(one + " has too many classes", one.getDeclaredClasses().length + 1 > MOST_CLASSES, false);
        for (Method m : one.getDeclaredMethods()) {
            Check.due(m + " has too many parameters", m.getParameterCount() > MOST_PARAMETERS, false);
        }
    }

    private static void source(String text) {
        String code = text.replaceAll("(?s)/\\*.*?\\*/", " ").replaceAll("//[^\n]*", " ");
        String bare = code.replaceAll("\"[^\"\n]*\"", "\"\"");
        for (String barred : BARRED) {
            boolean isWord = barred.matches("[a-zA-Z]+");
            Matcher m = Pattern.compile(isWord ? "\\b" + barred + "\\b" : barred).matcher(bare);
            if (m.find()) {
                Check.complain("barred by the language: " + m.group());
            }
        }
        library(bare);
        lengths(text);
        String due = "new (IllegalArgument|IllegalState|IndexOutOfBounds)Exception\\(\"\"\\)";
        Matcher thrown = Pattern.compile("throw (?!" + due + ")").matcher(bare);
        Check.due("throws of another form", thrown.find(), false);
        Matcher made = Pattern.compile("\\bnew (?!\\w+Exception\\()").matcher(bare);
        int inConstructors = 0;
        while (made.find()) {
            inConstructors++;
        }
        Matcher kept = Pattern.compile("(?m)^ +(\\w+|saved\\[i\\]) = new ").matcher(bare);
        int assigned = 0;
        while (kept.find()) {
            assigned++;
        }
        Check.due("objects that are made elsewhere than in constructors", inConstructors, assigned);
    }

    private static void library(String bare) {
        Set<String> used = new TreeSet<>();
        Matcher m = Pattern.compile("\\b(?:Integer|Long|Math|System|Arrays|String|StringBuilder)\\.\\w+").matcher(bare);
        while (m.find()) {
            used.add(m.group());
        }
        used.removeAll(LIBRARY);
        Check.due("library that the language does not list: " + used, used.size(), 0);
    }

    /** A method's head and its closing brace stand alone at the same depth, 4 within the class, 8 within an inner one. */
    private static void lengths(String text) {
        String[] lines = text.split("\n");
        for (int from = 0; from < lines.length; from++) {
            Matcher head = Pattern.compile("^( {4}| {8})[a-z][^=;]*\\(.*").matcher(lines[from]);
            if (head.matches() && !lines[from].trim().matches("(if|for|while|switch|return)\\b.*")) {
                int to = from;
                while (to < lines.length - 1 && !lines[to].equals(head.group(1) + "}")) {
                    to++;
                }
                Check.due("lines of" + lines[from] + " are too many", to - from + 1 > MOST_LINES, false);
            }
        }
    }
}
