import java.io.IOException;
import java.lang.reflect.Constructor;
import java.lang.reflect.Field;
import java.lang.reflect.Method;
import java.lang.reflect.Modifier;
import java.nio.file.Files;
import java.nio.file.Path;
import java.util.ArrayList;
import java.util.List;
import java.util.TreeSet;
import java.util.regex.Matcher;
import java.util.regex.Pattern;

/** The face of the class, as the document lists it, and those rules of LANGUAGE.md that can be looked up. */
final class FaceTest {
    private static final Path SOURCE = Path.of("src/main/java/SixFellows.java");
    private static final Path DOCUMENT = Path.of("../shared/DOC.md");

    public static void main(String[] args) throws IOException {
        partsOfTheDocument();
        face();
        sectionsOfTheFace();
        membersAreHidden();
        innerClasses();
        wordsOfTheSource();
        rowsAreMadeOnce();
        Check.end();
    }

    /** A part that no test knows would be told here. */
    private static void partsOfTheDocument() throws IOException {
        List<String> parts = new ArrayList<>(List.of("What it is", "The public face", "Terms"));
        parts.add("Promise 1: A new object");
        Matcher calls = Pattern.compile("(?m)^    public \\w+ (\\w+)\\(.*\\);$").matcher(Files.readString(DOCUMENT));
        for (int number = 2; calls.find(); number++) {
            parts.add("Promise " + number + ": " + calls.group(1));
        }
        parts.add("Not promised");
        List<String> there = new ArrayList<>();
        Matcher headings = Pattern.compile("(?m)^## (.*)$").matcher(Files.readString(DOCUMENT));
        while (headings.find()) {
            there.add(headings.group(1));
        }
        Check.due("promises", there.size() - 4, 43);
        Check.holds("the parts of the document are " + parts + ", not " + there, there.equals(parts));
    }

    /** The source's calls stand in the document's order, and ahead of them what the interface says there. */
    private static void sectionsOfTheFace() throws IOException {
        List<String> promised = new ArrayList<>();
        Matcher sections = Pattern.compile("Ahead of the calls (.*) the interface says: (---- .*)\\.").matcher(Files.readString(DOCUMENT));
        while (sections.find()) {
            promised.add(sections.group(2));
            promised.addAll(List.of(sections.group(1).replace("`", "").split(", ")));
        }
        List<String> there = new ArrayList<>();
        Matcher lines = Pattern.compile("(?m)^    (?:// (---- .*)|public (?:int|long) (\\w+)\\(.*)$").matcher(Files.readString(SOURCE));
        while (lines.find() && there.size() < promised.size()) {
            there.add(lines.group(1) != null ? lines.group(1) : lines.group(2));
        }
        Check.due("sections and calls promised", promised.size(), 8 + 42);
        Check.holds("the source says " + promised + ", not " + there, there.equals(promised));
    }

    private static void face() throws IOException {
        String document = Files.readString(DOCUMENT);
        TreeSet<String> promised = new TreeSet<>();
        Matcher m = Pattern.compile("(?m)^    public (\\w+ \\w+\\([^)]*\\));").matcher(document);
        while (m.find()) {
            promised.add(m.group(1).replaceAll("(int|long) \\w+(?=[,)])", "$1"));
        }
        TreeSet<String> there = new TreeSet<>();
        for (Method method : SixFellows.class.getDeclaredMethods()) {
            if (Modifier.isPublic(method.getModifiers())) {
                List<String> types = new ArrayList<>();
                for (Class<?> type : method.getParameterTypes()) {
                    types.add(type.getName());
                }
                there.add(method.getReturnType().getName() + " " + method.getName() + "(" + String.join(", ", types) + ")");
            }
        }
        Check.due("methods promised", promised.size(), 42);
        Check.holds("the methods are those promised: " + promised + " and " + there, promised.equals(there));
        int modifiers = SixFellows.class.getModifiers();
        Check.holds("public and final", Modifier.isPublic(modifiers) && Modifier.isFinal(modifiers));
        Constructor<?>[] constructors = SixFellows.class.getDeclaredConstructors();
        Check.holds("one public constructor without arguments", constructors.length == 1
            && Modifier.isPublic(constructors[0].getModifiers()) && constructors[0].getParameterCount() == 0);
    }

    private static void membersAreHidden() {
        TreeSet<String> publicNames = new TreeSet<>();
        for (Method method : SixFellows.class.getDeclaredMethods()) {
            if (Modifier.isPublic(method.getModifiers())) {
                publicNames.add(method.getName());
            }
        }
        for (Method method : SixFellows.class.getDeclaredMethods()) {
            boolean isPublic = Modifier.isPublic(method.getModifiers());
            Check.holds(method + " is public or private", isPublic || Modifier.isPrivate(method.getModifiers()));
            Check.holds(method + " has its own name", isPublic || !publicNames.contains(method.getName()));
            Check.holds(method + " takes seven at most", method.getParameterCount() <= 7);
        }
        for (Field field : SixFellows.class.getDeclaredFields()) {
            Check.holds(field + " is private", Modifier.isPrivate(field.getModifiers()));
            boolean isStatic = Modifier.isStatic(field.getModifiers());
            Check.holds(field + " is final, if static", !isStatic || Modifier.isFinal(field.getModifiers()));
        }
        for (Class<?> inside : SixFellows.class.getDeclaredClasses()) {
            for (Method method : inside.getDeclaredMethods()) {
                Check.holds(method + " has its own name", !publicNames.contains(method.getName()));
            }
        }
    }

    private static void innerClasses() {
        Class<?>[] inside = SixFellows.class.getDeclaredClasses();
        Check.holds("twelve classes at most", inside.length <= 11);
        for (Class<?> c : inside) {
            int modifiers = c.getModifiers();
            Check.holds(c + " is static", Modifier.isStatic(modifiers));
            Check.holds(c + " is not public", !Modifier.isPublic(modifiers) && !Modifier.isProtected(modifiers));
        }
    }

    private static void wordsOfTheSource() throws IOException {
        String source = Files.readString(SOURCE);
        String code = source.replaceAll("(?s)/\\*.*?\\*/", "").replaceAll("//[^\n]*", "").replaceAll("\"[^\"]*\"", "\"\"");
        String[] banned = {"throw", "throws", "try", "catch", "finally", "synchronized", "assert", "package", "native",
            "volatile", "transient", "System\\.(?!arraycopy)", "Thread", "Random", "Object", "Exception", "hashCode", "toString",
            "\\w+Exact", "double", "float", "->", "::"};
        for (String word : banned) {
            boolean is = Pattern.compile(word.matches("\\w.*") ? "\\b" + word + (word.endsWith(")") ? "" : "\\b") : word)
                .matcher(code).find();
            Check.holds("no " + word, !is);
        }
        Matcher imports = Pattern.compile("(?m)^import (.*);").matcher(code);
        while (imports.find()) {
            Check.holds("import " + imports.group(1), List.of("java.util.Arrays", "java.util.ArrayList", "java.util.List")
                .contains(imports.group(1)));
        }
        for (int i = 0; i < source.length(); i++) {
            if (source.charAt(i) > 126) {
                Check.holds("sign " + i + " is plain", false);
            }
        }
    }

    /** All calls of a run share one room, so what an object needs is made with it and by no call. */
    private static void rowsAreMadeOnce() throws IOException {
        for (String line : Files.readAllLines(SOURCE)) {
            if (line.contains("new ") && !line.trim().startsWith("/") && !line.trim().startsWith("*")) {
                Check.holds("made with the object: " + line.trim(), line.trim().matches("(private )?final .* = .*;"));
            }
        }
    }
}
