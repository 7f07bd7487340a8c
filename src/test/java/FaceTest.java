import java.io.IOException;
import java.lang.reflect.Constructor;
import java.lang.reflect.Field;
import java.lang.reflect.Method;
import java.lang.reflect.Modifier;
import java.nio.file.Files;
import java.nio.file.Path;
import java.util.Set;
import java.util.TreeSet;
import java.util.regex.Matcher;
import java.util.regex.Pattern;

/** The public face of the document, and those rules of LANGUAGE.md that can be read off the file. */
public final class FaceTest {
    private static final Set<String> FACE = Set.of(
        "section(int,int,int,boolean)", "tide(int,int)", "wind(int,int)", "rule(int,int)",
        "ship(int,int,boolean,int,boolean,int)", "convoy(int,int)", "book(int,int)", "ground(int,int)",
        "minutes(int)", "told(int,int)", "waited(int,int)", "line(int,int)", "in(int,int,int)", "count(int)");

    public static void main(String[] args) throws IOException {
        methods();
        constructorsAndFields();
        nestedClasses();
        source(Files.readString(Path.of(args.length > 0 ? args[0] : "src/main/java/ShipCut.java")));
        Check.finish();
    }

    private static void methods() {
        Set<String> found = new TreeSet<>();
        Set<String> names = new TreeSet<>();
        for (Method m : ShipCut.class.getDeclaredMethods()) {
            Check.holds(m + " has at most seven parameters", m.getParameterCount() <= 7);
            if (!Modifier.isPrivate(m.getModifiers())) {
                Check.holds(m + " is public, of the object, and answers an int", Modifier.isPublic(m.getModifiers())
                    && !Modifier.isStatic(m.getModifiers()) && m.getReturnType() == int.class);
                found.add(signature(m));
                names.add(m.getName());
            }
        }
        Check.holds("the methods are those of the document: " + found, found.equals(new TreeSet<>(FACE)));
        for (Method m : ShipCut.class.getDeclaredMethods()) {
            Check.holds(m + " bears no public name", !Modifier.isPrivate(m.getModifiers()) || !names.contains(m.getName()));
        }
    }

    private static String signature(Method m) {
        StringBuilder text = new StringBuilder(m.getName()).append('(');
        for (Class<?> type : m.getParameterTypes()) {
            text.append(text.charAt(text.length() - 1) == '(' ? "" : ",").append(type.getName());
        }
        return text.append(')').toString();
    }

    private static void constructorsAndFields() {
        Check.holds("the class is public and final", Modifier.isPublic(ShipCut.class.getModifiers())
            && Modifier.isFinal(ShipCut.class.getModifiers()));
        Constructor<?>[] constructors = ShipCut.class.getDeclaredConstructors();
        Check.holds("one public constructor without parameters", constructors.length == 1
            && Modifier.isPublic(constructors[0].getModifiers()) && constructors[0].getParameterCount() == 0);
        Set<String> found = new TreeSet<>();
        for (Field f : ShipCut.class.getDeclaredFields()) {
            int mods = f.getModifiers();
            Check.holds(f + " is final if it is static", !Modifier.isStatic(mods) || Modifier.isFinal(mods));
            if (!Modifier.isPrivate(mods)) {
                Check.holds(f + " is a public int constant", Modifier.isPublic(mods) && Modifier.isStatic(mods)
                    && f.getType() == int.class);
                found.add(f.getName());
            }
        }
        Check.holds("the constants are those of the document", found.equals(Set.of("BAD", "NO", "FULL", "NONE")));
    }

    private static void nestedClasses() {
        Class<?>[] inside = ShipCut.class.getDeclaredClasses();
        Check.holds("at most twelve classes", inside.length < 12);
        for (Class<?> c : inside) {
            int mods = c.getModifiers();
            Check.holds(c + " is static and not public", Modifier.isStatic(mods) && !Modifier.isPublic(mods)
                && !Modifier.isProtected(mods));
            Check.holds(c + " has some twenty fields at most", c.getDeclaredFields().length <= 20);
            for (Method m : c.getDeclaredMethods()) {
                Check.holds(m + " has at most seven parameters", m.getParameterCount() <= 7);
            }
            for (Constructor<?> made : c.getDeclaredConstructors()) {
                Check.holds(made + " has at most seven parameters", made.getParameterCount() <= 7);
            }
            for (Field f : c.getDeclaredFields()) {
                Check.holds(f + " is final if it is static", !Modifier.isStatic(f.getModifiers())
                    || Modifier.isFinal(f.getModifiers()));
            }
        }
    }

    private static void source(String text) {
        String code = text.replaceAll("(?s)/\\*.*?\\*/", " ").replaceAll("//[^\n]*", " ").replaceAll("'[^']*'|\"[^\"]*\"", " ");
        String[] barred = {"throw", "throws", "try", "catch", "finally", "synchronized", "assert", "import", "package",
            "native", "var", "Object", "Exception", "hashCode", "toString"};
        for (String word : barred) {
            Check.holds("no " + word, !Pattern.compile("\\b" + word + "\\b").matcher(code).find());
        }
        Check.holds("no lambda and no method reference", !code.contains("->") && !code.contains("::"));
        Check.holds("no function that ends in Exact", !Pattern.compile("\\w+Exact\\b").matcher(code).find());
        Check.holds("no index is the answer of a call, which no one has looked at",
            !Pattern.compile("(?<!new )\\b\\w+\\[[^\\]]*\\(").matcher(code).find());
        Matcher math = Pattern.compile("\\bMath\\.(\\w+)").matcher(code);
        while (math.find()) {
            Check.holds("Math." + math.group(1), Set.of("max", "min", "abs").contains(math.group(1)));
        }
        Check.holds("no method is longer than some sixty lines", longestMethod(text) <= 60);
        for (int i = 0; i < text.length(); i++) {
            if (text.charAt(i) > 126) {
                Check.holds("plain letters alone", false);
                break;
            }
        }
    }

    /** In lines, by the indents: a method's last line is a brace as deep in as its first one. */
    private static int longestMethod(String text) {
        Matcher method = Pattern.compile("(?ms)^( {4}| {8})(?:public |private |static )*\\w+(?:\\[\\])? \\w+\\([^)]*\\) \\{$.*?^\\1\\}$").matcher(text);
        int longest = 0;
        int found = 0;
        while (method.find()) {
            found++;
            longest = Math.max(longest, method.group().split("\n").length);
        }
        Check.holds("methods were found", found > 30);
        return longest;
    }
}
