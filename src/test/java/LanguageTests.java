import java.io.PrintWriter;
import java.io.StringWriter;
import java.lang.reflect.Constructor;
import java.lang.reflect.Field;
import java.lang.reflect.Method;
import java.lang.reflect.Modifier;
import java.nio.file.Files;
import java.nio.file.Path;
import java.util.ArrayList;
import java.util.HashSet;
import java.util.List;
import java.util.Map;
import java.util.Optional;
import java.util.Set;
import java.util.TreeMap;
import java.util.TreeSet;
import java.util.regex.Matcher;
import java.util.regex.Pattern;
import java.util.spi.ToolProvider;

/** The rules of LANGUAGE.md that can be seen from the text and the class, and the document's face. */
final class LanguageTests {
    private static int wrong = 0;

    private static final String FACE = "int state(int) int islander(int,int) boolean set(int,int,int) boolean act(int,int)"
            + " int days(int) int feed(int,int,int,int,int) boolean end(int) int text(int) int fault(int) int of(int,int)"
            + " int book(int,int) int goes(int,int) int lonely() int must(int,int) int strokes(int,int)"
            + " int hands(int,int) int wheel(int,boolean) int wheels(int) int couple(int,int) int ferry(int,int)"
            + " int glasses(int,int,int) int seat(int) int level() int part(int,int,int) int bells(int,int,int)"
            + " int against(int,int,int) int calendar(int,int,int) int rope(int,int,int) int meets(int,int,int,int)"
            + " int arm(int,int) int hung(int) int game(int,int,int,int) boolean undo() boolean image(boolean)"
            + " int look(int)";

    public static void main(String[] args) throws Exception {
        Path source = Path.of(args.length > 0 ? args[0] : "src/main/java/RopeClock.java");
        String code = Files.readString(source);
        String bare = code.replaceAll("(?s)/\\*.*?\\*/", " ").replaceAll("//[^\n]*", " ");
        String plain = bare.replaceAll("'(\\\\.|[^'])'", "0").replaceAll("\"[^\"]*\"", "STRING");
        noForbiddenWords(plain);
        noForbiddenShapes(code, plain);
        methodsAreShort(plain);
        faceIsAsTold();
        callsAreShallow();
        System.out.println("LanguageTests: " + wrong + " wrong");
        if (wrong != 0) {
            System.exit(1);
        }
    }

    private static void blame(String what) {
        wrong++;
        System.out.println(what);
    }

    private static void noForbiddenWords(String plain) {
        String[] words = {"throw", "throws", "try", "catch", "finally", "synchronized", "assert", "package", "volatile",
            "transient", "native", "Random", "currentTimeMillis", "nanoTime", "Thread", "hashCode", "toString",
            "Exact", "HashMap", "Map", "Set", "Object", "Optional", "Stream", "protected", "identityHashCode"};
        for (String w : words) {
            if (Pattern.compile("\\b" + w + "\\b").matcher(plain).find()) {
                blame("the word " + w);
            }
        }
        Matcher imports = Pattern.compile("import ([^;]*);").matcher(plain);
        while (imports.find()) {
            if (!imports.group(1).matches("java\\.util\\.(Arrays|ArrayList|List|Iterator)")) {
                blame("import " + imports.group(1));
            }
        }
        Matcher library = Pattern.compile("\\b(Math|Integer|Long|Arrays|System)\\.(\\w+)").matcher(plain);
        Set<String> used = new TreeSet<>();
        while (library.find()) {
            used.add(library.group());
        }
        used.removeAll(Set.of("Math.abs", "Math.max", "Math.min", "Math.floorDiv", "Math.floorMod", "Integer.bitCount",
                "Integer.MAX_VALUE", "Arrays.fill", "System.arraycopy"));
        if (!used.isEmpty()) {
            blame("the library: " + used);
        }
    }

    private static void noForbiddenShapes(String code, String plain) {
        if (plain.contains("->") || plain.contains("::")) {
            blame("a lambda, a method reference or a switch by arrows");
        }
        if (plain.matches("(?s).*STRING\\s*\\+.*") || plain.matches("(?s).*\\+\\s*STRING.*")) {
            blame("texts joined by +");
        }
        if (plain.matches("(?s).*\\bstatic\\s*\\{.*")) {
            blame("a static initialiser");
        }
        Matcher statics = Pattern.compile("\\bstatic\\s+(?!final\\b)[\\w\\[\\]]+\\s+\\w+\\s*(=|;)").matcher(plain);
        while (statics.find()) {
            blame("static state: " + statics.group());
        }
        Matcher many = Pattern.compile("\\w+\\s+\\w+\\(([^()]*)\\)\\s*\\{").matcher(plain);
        while (many.find()) {
            if (many.group(1).split(",").length > 7) {
                blame("more than seven parameters: " + many.group());
            }
        }
        int classes = plain.split("\\bclass\\b").length - 1;
        if (classes > 12) {
            blame(classes + " classes");
        }
        for (char c : code.toCharArray()) {
            if (c > 127) {
                blame("a sign beyond 127: " + c);
            }
        }
        Matcher whiles = Pattern.compile("while\\s*\\([^<>]*\\)").matcher(plain);
        while (whiles.find()) {
            blame("a loop without a bound: " + whiles.group());
        }
    }

    private static void methodsAreShort(String plain) {
        String[] lines = plain.split("\n");
        int start = -1;
        String name = "";
        String indent = "";
        for (int i = 0; i < lines.length; i++) {
            Matcher m = Pattern.compile("^( {4}| {8})\\S.*\\) \\{$").matcher(lines[i]);
            if (m.find() && start < 0) {
                start = i;
                name = lines[i];
                indent = m.group(1);
            } else if (start >= 0 && lines[i].equals(indent + "}")) {
                if (i - start + 1 > 60) {
                    blame(name.trim() + " has " + (i - start + 1) + " lines");
                }
                start = -1;
            }
        }
    }

    /** Calls that are no recursion go at most eight deep: seen from the compiled classes, where javap is at hand. */
    private static void callsAreShallow() throws Exception {
        Optional<ToolProvider> javap = ToolProvider.findFirst("javap");
        if (javap.isEmpty()) {
            return;
        }
        Path home = Path.of(RopeClock.class.getProtectionDomain().getCodeSource().getLocation().toURI());
        Map<String, Set<String>> calls = new TreeMap<>();
        for (Class<?> c : everyClass()) {
            StringWriter out = new StringWriter();
            javap.get().run(new PrintWriter(out), new PrintWriter(out), "-p", "-c", home.resolve(c.getName() + ".class").toString());
            callsOf(c.getName(), out.toString(), calls);
        }
        if (!calls.containsKey("RopeClock.days")) {
            blame("javap shows no calls");
        }
        for (String method : calls.keySet()) {
            List<String> deepest = deepestFrom(method, calls, new ArrayList<>());
            if (deepest.size() > 8) {
                blame("calls " + deepest.size() + " deep: " + deepest);
            }
        }
    }

    private static List<Class<?>> everyClass() {
        List<Class<?>> all = new ArrayList<>(List.of(RopeClock.class.getDeclaredClasses()));
        all.add(RopeClock.class);
        return all;
    }

    private static void callsOf(String owner, String listing, Map<String, Set<String>> calls) {
        Pattern opens = Pattern.compile("^  \\S.*?([\\w$]+)\\(.*\\);$");
        Pattern calling = Pattern.compile("// Method (?:([\\w$/]+)\\.)?\"?([\\w<>]+)\"?:");
        String method = "";
        for (String line : listing.split("\\R")) {
            Matcher m = opens.matcher(line);
            if (m.matches()) {
                method = owner + "." + (m.group(1).equals(owner) ? "<init>" : m.group(1));
                calls.putIfAbsent(method, new TreeSet<>());
            }
            Matcher called = calling.matcher(line);
            if (called.find()) {
                String whose = called.group(1) == null ? owner : called.group(1);
                if (whose.startsWith("RopeClock")) {
                    calls.get(method).add(whose + "." + called.group(2));
                }
            }
        }
    }

    private static List<String> deepestFrom(String method, Map<String, Set<String>> calls, List<String> open) {
        List<String> best = new ArrayList<>(open);
        best.add(method);
        List<String> here = List.copyOf(best);
        for (String next : calls.getOrDefault(method, Set.of())) {
            List<String> deeper = here.contains(next) ? here : deepestFrom(next, calls, here);
            best = deeper.size() > best.size() ? deeper : best;
        }
        return best;
    }

    private static void faceIsAsTold() {
        Class<?> c = RopeClock.class;
        if (!Modifier.isPublic(c.getModifiers()) || !Modifier.isFinal(c.getModifiers())) {
            blame("the class is not public and final");
        }
        Set<String> due = new TreeSet<>();
        Matcher told = Pattern.compile("\\w+ \\w+\\([^)]*\\)").matcher(FACE);
        while (told.find()) {
            due.add(told.group());
        }
        Set<String> got = new TreeSet<>();
        Set<String> publicNames = new HashSet<>();
        Set<String> otherNames = new HashSet<>();
        for (Method m : c.getDeclaredMethods()) {
            if (Modifier.isPublic(m.getModifiers())) {
                StringBuilder s = new StringBuilder(m.getReturnType() + " " + m.getName() + "(");
                for (int i = 0; i < m.getParameterCount(); i++) {
                    s.append(i > 0 ? "," : "").append(m.getParameterTypes()[i]);
                }
                got.add(s + ")");
                publicNames.add(m.getName());
            } else {
                otherNames.add(m.getName());
                if (!Modifier.isPrivate(m.getModifiers())) {
                    blame("not private: " + m);
                }
            }
        }
        if (!due.equals(got)) {
            blame("the face is " + got);
        }
        for (Field f : c.getDeclaredFields()) {
            if (!Modifier.isPrivate(f.getModifiers()) && !f.getName().equals("NONE")) {
                blame("not private: " + f);
            }
        }
        for (Constructor<?> k : c.getDeclaredConstructors()) {
            if (!Modifier.isPublic(k.getModifiers()) || k.getParameterCount() != 0) {
                blame("constructor " + k);
            }
        }
        for (Class<?> inside : c.getDeclaredClasses()) {
            if (!Modifier.isStatic(inside.getModifiers())) {
                blame("not static: " + inside);
            }
            for (Method m : inside.getDeclaredMethods()) {
                otherNames.add(m.getName());
            }
            int fields = 0;
            for (Field f : inside.getDeclaredFields()) {
                fields += Modifier.isStatic(f.getModifiers()) ? 0 : 1;
            }
            if (fields > 20) {
                blame(inside + " has " + fields + " fields");
            }
        }
        otherNames.retainAll(publicNames);
        if (!otherNames.isEmpty()) {
            blame("names of the face used again: " + otherNames);
        }
    }
}
