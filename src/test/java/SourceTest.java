import java.io.IOException;
import java.lang.reflect.Constructor;
import java.lang.reflect.Field;
import java.lang.reflect.Method;
import java.lang.reflect.Modifier;
import java.nio.file.Files;
import java.nio.file.Path;
import java.util.ArrayList;
import java.util.List;
import java.util.Set;
import java.util.TreeSet;
import java.util.regex.Matcher;
import java.util.regex.Pattern;

/** The rules of LANGUAGE.md that the program's text, or its compiled classes, can be asked for. */
public final class SourceTest {
    private static final Path SOURCE = Path.of("src/main/java/NightfallCouncil.java");
    private static final Path DOCUMENT = Path.of("../shared/DOC.md");
    private static final Pattern FACE = Pattern.compile("\n    (public [^;{=]*\\))([^;{]*)[;{]");
    private static final Pattern METHOD = Pattern.compile("\n( {4}| {8})(?! )[^;={}]*\\([^;={}]*\\)[^;={}]*\\{\n"
            + "(.*?\n)\\1\\}\n", Pattern.DOTALL);
    private static final Pattern CONSTRUCTOR =
            Pattern.compile("\n +(?:public )?[A-Z]\\w*\\([^;{}]*\\{([^}]*)\\}");
    private static final String[] RULED_OUT = {
        "->", "::", "\\bsynchronized\\b", "\\bassert\\b", "\\bfinally\\b", "\\btry\\b", "\\bcatch\\b",
        "\\bstatic *\\{", "\\binstanceof\\b", "\\bprotected\\b", "\\bpackage\\b", "Exact\\(", "\\byield\\b",
        "\\bSystem\\.(?!arraycopy)", "\\bThread\\b", "\\bRandom\\b", "\\bObject\\b", "\\bvar\\b", "\\bhashCode\\b",
        "\\btoString\\b", "\\bgetMessage\\b", "\\bvolatile\\b", "\\btransient\\b", "\"[^\n]*\" *\\+", "\\+ *\""};
    private static final Set<String> EXCEPTIONS = Set.of("IllegalStateException", "IllegalArgumentException",
            "IndexOutOfBoundsException", "ArithmeticException", "UnsupportedOperationException",
            "NoSuchElementException");
    private static final int MOST_LINES = 60;
    private static final int MOST_PARAMETERS = 7;
    private static final int MOST_CLASSES = 12;
    private static final int MOST_FIELDS = 20;

    public static void main(String[] args) throws IOException {
        String source = Files.readString(SOURCE);
        String plain = withoutCommentsAndTexts(source);
        face(source, Files.readString(DOCUMENT));
        words(source, plain);
        exceptions(plain);
        room(plain);
        methods(source);
        List<Class<?>> classes = new ArrayList<>(List.of(NightfallCouncil.class.getDeclaredClasses()));
        Due.is("classes inside", classes.size() <= MOST_CLASSES, true);
        for (Class<?> inside : classes) {
            Due.is(inside + " is private or package-visible", Modifier.isPublic(inside.getModifiers()), false);
            Due.is(inside + " is static", Modifier.isStatic(inside.getModifiers()), true);
        }
        classes.add(NightfallCouncil.class);
        for (Class<?> one : classes) {
            fields(one);
            parameters(one);
        }
        names();
        Due.end("SourceTest");
    }

    /** Rule 1: what is public is what the document's face has, word by word. */
    private static void face(String source, String document) {
        int end = document.indexOf("## Terms");
        Due.is("the face", signatures(source), signatures(document.substring(0, Math.max(end, 0))));
        Due.is("the face has methods", signatures(source).size(), 47L);
    }

    private static Set<String> signatures(String text) {
        Set<String> found = new TreeSet<>();
        Matcher face = FACE.matcher(text);
        while (face.find()) {
            found.add((face.group(1) + face.group(2)).replaceAll("\\s+", " ").trim());
        }
        return found;
    }

    private static String withoutCommentsAndTexts(String source) {
        return source.replaceAll("(?s)/\\*.*?\\*/", "").replaceAll("//[^\n]*", "")
                .replaceAll("\"[^\"\n]*\"", "\"\"").replaceAll("'[^'\n]+'", "' '");
    }

    /** Rules 2 to 6, 10 and 13. */
    private static void words(String source, String plain) {
        Due.is("signs are 1 to 127", source.chars().allMatch(sign -> sign > 0 && sign < 128), true);
        for (String word : RULED_OUT) {
            Due.is("the source has " + word, Pattern.compile(word).matcher(plain).find(), false);
        }
        Set<String> imports = new TreeSet<>();
        Matcher line = Pattern.compile("import ([^;]*);").matcher(plain);
        while (line.find()) {
            imports.add(line.group(1));
        }
        Due.is("imports", imports, Set.of("java.util.NoSuchElementException"));
        Due.is("texts are not compared as objects", Pattern.compile("[!=]= *\"").matcher(plain).find(), false);
    }

    /** Rule 6: only these exceptions, and none in a constructor. */
    private static void exceptions(String plain) {
        Matcher thrown = Pattern.compile("\\bthrow\\b([^;]*);").matcher(plain);
        while (thrown.find()) {
            Matcher form = Pattern.compile(" new (\\w+)\\((\"\")?\\)").matcher(thrown.group(1));
            Due.is("throw" + thrown.group(1), form.matches() && EXCEPTIONS.contains(form.group(1)), true);
        }
        Matcher constructor = CONSTRUCTOR.matcher(plain);
        while (constructor.find()) {
            Due.is("a constructor throws", constructor.group(1).contains("throw"), false);
        }
    }

    /** Rule 12: all that a run makes is what its constructors make, and the exceptions that it throws. */
    private static void room(String plain) {
        String calls = CONSTRUCTOR.matcher(plain).replaceAll("\n");
        Due.is("constructors are found", calls.length() < plain.length(), true);
        Due.is("a call makes an object", Pattern.compile("(?<!\\bthrow )\\bnew\\b").matcher(calls).find(), false);
        Due.is("a call makes a list or a text",
                Pattern.compile("\\bList\\b|\\bStringBuilder\\b|\\.clone\\(|\\bcopyOf|\\bsubstring\\(").matcher(calls).find(),
                false);
    }

    /** Rule 11. */
    private static void methods(String source) {
        int count = 0;
        Matcher method = METHOD.matcher(source.replaceAll("(?s)\n +/\\*.*?\\*/", ""));
        int from = 0;
        while (method.find(from)) {
            String head = method.group().trim().split("\n")[0];
            if (!head.contains(" class ")) {
                count++;
                Due.is("lines of " + head, method.group(2).lines().count() <= MOST_LINES, true);
            }
            from = method.start() + 1;
        }
        Due.is("methods are found", count > 100, true);
    }

    private static void parameters(Class<?> one) {
        for (Method method : one.getDeclaredMethods()) {
            Due.is("parameters of " + method, method.getParameterCount() <= MOST_PARAMETERS, true);
        }
        for (Constructor<?> constructor : one.getDeclaredConstructors()) {
            Due.is("parameters of " + constructor, constructor.getParameterCount() <= MOST_PARAMETERS, true);
        }
    }

    /** Rules 1, 3, 5 and 11: fields of the types that are left, no static state, and not too many. */
    private static void fields(Class<?> one) {
        int count = 0;
        for (Field field : one.getDeclaredFields()) {
            boolean isStatic = Modifier.isStatic(field.getModifiers());
            count += isStatic ? 0 : 1;
            Due.is(field + " is static and not final", isStatic && !Modifier.isFinal(field.getModifiers()), false);
            Due.is(field + " is private", Modifier.isPrivate(field.getModifiers()), true);
            Due.is(field + " is of a type that is left", isLeft(field.getType()), true);
        }
        Due.is("fields of " + one, count <= MOST_FIELDS, true);
    }

    private static boolean isLeft(Class<?> type) {
        if (type.isArray()) {
            return type.getComponentType().isPrimitive();
        }
        return type.isPrimitive() || type == String.class || type.getName().startsWith("NightfallCouncil");
    }

    /** Rule 1: no private method bears the name of a public one. */
    private static void names() {
        Set<String> open = new TreeSet<>();
        for (Method method : NightfallCouncil.class.getDeclaredMethods()) {
            if (Modifier.isPublic(method.getModifiers())) {
                open.add(method.getName());
            }
        }
        for (Method method : NightfallCouncil.class.getDeclaredMethods()) {
            boolean isHidden = !method.isSynthetic() && !Modifier.isPublic(method.getModifiers());
            Due.is(method + " bears a public name", isHidden && open.contains(method.getName()), false);
            Due.is(method + " is neither public nor private", isHidden && !Modifier.isPrivate(method.getModifiers()),
                    false);
        }
    }
}
