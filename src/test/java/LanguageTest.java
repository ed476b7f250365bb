import java.io.IOException;
import java.lang.reflect.Constructor;
import java.lang.reflect.Field;
import java.lang.reflect.Method;
import java.lang.reflect.Modifier;
import java.nio.file.Files;
import java.nio.file.Path;
import java.util.TreeSet;
import java.util.regex.Matcher;
import java.util.regex.Pattern;

/** The face of the document, and those rules of LANGUAGE.md that can be read off the class or its source. */
public final class LanguageTest {
    private static final String[] FACE = {
        "int write(int)", "int wipe()", "int fault()", "int row()", "int house(int,int)", "int today(int,int)",
        "int at(int)", "int day()", "int swap(int,int)", "int salt(int)", "int away(int)", "int undo()",
        "int ahead(int,int)", "int order(boolean)", "int worst(boolean)", "int salts(int)", "int cask(int)",
        "int judge(int,long)", "int see(int,int,int)", "int unsee()", "int wants(int)", "int share(int,boolean)",
        "int rests(int,int,int)", "int guests(int,int,boolean)", "long seed(long)", "int weeks(int)", "int keep(int)",
        "int again(int)", "int count(int)"};
    private static final String[] CONSTANTS = {"UNKNOWN", "OUTSIDE", "STATE", "FULL", "NONE"};
    private static final String[] FORBIDDEN_WORDS = {"throw", "throws", "try", "catch", "finally", "synchronized", "assert",
        "import", "package", "native", "volatile", "transient", "Exact", "System\\.(?!arraycopy)", "Thread", "Object",
        "equals", "hashCode", "toString", "protected"};

    /** Of rule 4, what the class has a use for; a constant such as Integer.MAX_VALUE does not stand there. */
    private static final java.util.Set<String> LIBRARY = java.util.Set.of("Math.max(", "Math.min(", "Math.abs(",
        "Math.floorMod(", "Integer.bitCount(", "System.arraycopy(");

    private static final Checks c = new Checks();

    public static void main(String[] args) throws IOException {
        face();
        nestedClasses();
        source(Files.readString(Path.of(System.getProperty("thirstrow.source", "src/main/java/ThirstRow.java"))));
        c.end("LanguageTest");
    }

    private static void face() {
        c.due("modifiers", ThirstRow.class.getModifiers(), Modifier.PUBLIC | Modifier.FINAL);
        TreeSet<String> due = new TreeSet<>(java.util.List.of(FACE));
        TreeSet<String> found = new TreeSet<>();
        TreeSet<String> publicNames = new TreeSet<>();
        for (Method m : ThirstRow.class.getDeclaredMethods()) {
            if (m.getModifiers() == Modifier.PUBLIC) {
                found.add(told(m));
                publicNames.add(m.getName());
            } else {
                c.holds("private: " + m, Modifier.isPrivate(m.getModifiers()));
            }
        }
        c.holds("the methods of the face, found " + found, found.equals(due));
        Constructor<?>[] constructors = ThirstRow.class.getDeclaredConstructors();
        c.due("constructors", constructors.length, 1);
        c.due("the constructor is public", constructors[0].getModifiers(), Modifier.PUBLIC);
        c.due("the constructor takes nothing", constructors[0].getParameterCount(), 0);
        TreeSet<String> constants = new TreeSet<>();
        for (Field f : ThirstRow.class.getDeclaredFields()) {
            if (Modifier.isPublic(f.getModifiers())) {
                constants.add(f.getName());
            } else {
                c.holds("private: " + f, Modifier.isPrivate(f.getModifiers()));
            }
            c.holds("static means final: " + f, !Modifier.isStatic(f.getModifiers()) || Modifier.isFinal(f.getModifiers()));
        }
        c.holds("the constants", constants.equals(new TreeSet<>(java.util.List.of(CONSTANTS))));
        int[] values = {ThirstRow.UNKNOWN, ThirstRow.OUTSIDE, ThirstRow.STATE, ThirstRow.FULL, ThirstRow.NONE};
        int[] dueValues = {-1, -2, -3, -4, -9};
        for (int i = 0; i < values.length; i++) {
            c.due(CONSTANTS[i], values[i], dueValues[i]);
        }
        privateNames(ThirstRow.class, publicNames);
        for (Class<?> inside : ThirstRow.class.getDeclaredClasses()) {
            privateNames(inside, publicNames);
        }
    }

    private static void privateNames(Class<?> of, TreeSet<String> publicNames) {
        for (Method m : of.getDeclaredMethods()) {
            boolean ofTheFace = Modifier.isPublic(m.getModifiers()) && of == ThirstRow.class;
            c.holds("a name of its own: " + m, ofTheFace || !publicNames.contains(m.getName()));
            c.holds("at most seven parameters: " + m, m.getParameterCount() <= 7);
        }
    }

    private static String told(Method m) {
        StringBuilder told = new StringBuilder(m.getReturnType().getName()).append(' ').append(m.getName()).append('(');
        for (Class<?> p : m.getParameterTypes()) {
            told.append(told.charAt(told.length() - 1) == '(' ? "" : ",").append(p.getName());
        }
        return told.append(')').toString();
    }

    private static void nestedClasses() {
        Class<?>[] inside = ThirstRow.class.getDeclaredClasses();
        c.holds("at most twelve classes", inside.length + 1 <= 12);
        for (Class<?> n : inside) {
            c.holds("static: " + n, Modifier.isStatic(n.getModifiers()));
            c.holds("not public: " + n, !Modifier.isPublic(n.getModifiers()) && !Modifier.isProtected(n.getModifiers()));
            int fields = 0;
            for (Field f : n.getDeclaredFields()) {
                fields += Modifier.isStatic(f.getModifiers()) ? 0 : 1;
            }
            c.holds("at most twenty fields: " + n, fields <= 20);
        }
    }

    private static void source(String source) {
        String code = Pattern.compile("/\\*.*?\\*/|//[^\n]*", Pattern.DOTALL).matcher(source).replaceAll(" ");
        for (String word : FORBIDDEN_WORDS) {
            Matcher m = Pattern.compile(word.equals("Exact") ? "\\w*Exact\\b" : "\\b" + word + (word.endsWith(")") ? "" : "\\b")).matcher(code);
            c.holds("none of '" + word + "'", !m.find());
        }
        c.holds("no lambda, no method reference", !code.contains("->") && !code.contains("::"));
        c.holds("no static block", !Pattern.compile("static\\s*\\{").matcher(code).find());
        c.holds("signs 1 to 127", source.chars().allMatch(ch -> ch > 0 && ch < 128));
        library(code);
        madeInConstructors(code);
        lengthOfMethods(source.split("\n"));
    }

    private static void library(String code) {
        Matcher m = Pattern.compile("\\b(Math|Integer|Long|System|Character|Boolean|Arrays|String|List)\\s*\\.\\s*\\w+\\s*\\(?")
            .matcher(code);
        while (m.find()) {
            c.holds("of the library, as rule 4 has it: " + m.group(), LIBRARY.contains(m.group()));
        }
    }

    /** Rule 12 by the shortest way, which README.md tells too: no call makes an object. */
    private static void madeInConstructors(String code) {
        String member = "";
        for (String line : code.split("\n")) {
            if (beginsMember(line)) {
                member = line.strip();
            }
            if (Pattern.compile("\\bnew\\b|\\bclone\\b|\\bcopyOf").matcher(line).find()) {
                c.holds("made in a constructor: " + line.strip(), member.matches("(public )?[A-Z]\\w*\\(.*"));
            }
        }
    }

    private static boolean beginsMember(String line) {
        return line.matches("\\s+.*\\) \\{") && !line.matches("\\s+(if|for|while|switch|\\}).*");
    }

    private static void lengthOfMethods(String[] lines) {
        int longest = 0;
        int begun = 0;
        for (int i = 0; i < lines.length; i++) {
            if (beginsMember(lines[i])) {
                begun = i;
            }
            if (lines[i].matches("    (    )?\\}")) {
                longest = Math.max(longest, i - begun);
                begun = i;
            }
        }
        c.holds("methods of some sixty lines at most, longest " + longest, longest <= 60);
    }
}
