import java.io.IOException;
import java.lang.reflect.Field;
import java.lang.reflect.Modifier;
import java.nio.charset.StandardCharsets;
import java.nio.file.Files;
import java.nio.file.Path;
import java.util.ArrayList;
import java.util.HashSet;
import java.util.Map;
import java.util.Set;
import java.util.TreeMap;
import java.util.TreeSet;
import java.util.regex.Matcher;
import java.util.regex.Pattern;

/** What a reader of the text can count of ../shared/LANGUAGE.md; run where src/main/java/Takeoff.java is found. */
public final class LanguageTest {
    private static final Path SOURCE = Path.of("src", "main", "java", "Takeoff.java");

    /** What the rules forbid, or what the program does without though they don't. */
    private static final String[] WITHOUT = {
        "->", "::", "\\bpackage\\b", "\\btry\\b", "\\bcatch\\b", "\\bfinally\\b", "\\bsynchronized\\b",
        "\\bassert\\b", "\\binstanceof\\b", "\\bvar\\b", "static\\s*\\{", "\\bSystem\\b", "\\bThread\\b",
        "\\bequals\\b", "\\bhashCode\\b", "\\btoString\\b", "\\bgetMessage\\b", "\\bObject\\b", "Exact\\(",
        "\\bRandom\\b", "\\bNaN\\b", "\\bprotected\\b", "\\[\\]\\[\\]\\[\\]", "\\bwhile\\b", "\\bString\\b",
    };

    private static final String CLASS = "\\b(class|interface|enum|record)\\s+[A-Z]";

    private static final String EXCEPTIONS =
        "IllegalState|IllegalArgument|IndexOutOfBounds|Arithmetic|UnsupportedOperation|NoSuchElement";

    public static void main(String[] args) throws IOException {
        byte[] bytes = Files.readAllBytes(SOURCE);
        String text = new String(bytes, StandardCharsets.ISO_8859_1);
        for (byte sign : bytes) {
            if (sign < 1) {
                Check.compare("signs are 1 to 127", "true", "false");
            }
        }
        imports(text);
        String code = text.replaceAll("(?s)/\\*.*?\\*/", "").replaceAll("//[^\n]*", "")
            .replaceAll("\"[^\"\n]*\"", "\"\"");
        for (String without : WITHOUT) {
            Check.compare("without " + without, "0", String.valueOf(count(code, without)));
        }
        Check.compare("no texts joined by +", "0", String.valueOf(count(code, "\"\\s*\\+|\\+\\s*\"")));
        int classes = count(code, CLASS);
        Check.compare("at most twelve classes", "true", String.valueOf(classes <= 12));
        same("all classes but one are private and static", classes - 1,
            count(code, "private static (final |abstract )?" + CLASS));
        same("every throw makes one of the exceptions, with a written text", count(code, "\\bthrow\\b"),
            count(code, "throw new (" + EXCEPTIONS + ")Exception\\(\"\"\\);"));
        same("every loop counts to a bound", count(code, "\\bfor\\b"),
            count(code, "for \\(int (\\w+) = [^;:]+; \\1 [<>]=? [^;]+; \\1(\\+\\+|--)\\)"));
        Check.compare("what is called of the library", "[add, fill, get, isEmpty, max, remove, size]",
            libraryCalls(code, methods(code)).toString());
        fields();
        Check.end();
    }

    /** "a class some twenty fields beside its constants", of the types of rule 3; what is static is final. */
    private static void fields() {
        Set<Class<?>> classes = new HashSet<>(Set.of(Takeoff.class.getDeclaredClasses()));
        classes.add(Takeoff.class);
        for (Class<?> type : classes) {
            int own = 0;
            for (Field field : type.getDeclaredFields()) {
                boolean isStatic = Modifier.isStatic(field.getModifiers());
                own += isStatic ? 0 : 1;
                Check.compare(field + " is a constant number, or holds what rule 3 lists", "true",
                    String.valueOf(isStatic ? isConstant(field) : isPlain(field.getType(), classes)));
            }
            Check.compare(type + " has at most twenty fields", "true", String.valueOf(own <= 20));
        }
    }

    private static boolean isConstant(Field field) {
        return Modifier.isFinal(field.getModifiers()) && field.getType() == int.class;
    }

    private static boolean isPlain(Class<?> type, Set<Class<?>> classes) {
        return Set.of(int.class, int[].class, long[].class, long[][].class, ArrayList.class).contains(type)
            || classes.contains(type);
    }

    private static void imports(String text) {
        Matcher matcher = Pattern.compile("(?m)^import (.*);$").matcher(text);
        StringBuilder found = new StringBuilder();
        while (matcher.find()) {
            found.append(found.length() == 0 ? "" : " ").append(matcher.group(1));
        }
        Check.compare("the imports", "java.util.ArrayList java.util.Arrays java.util.NoSuchElementException",
            found.toString());
    }

    private static void same(String what, int due, int found) {
        Check.compare(what, String.valueOf(due), String.valueOf(found));
    }

    private static int count(String text, String pattern) {
        Matcher matcher = Pattern.compile(pattern).matcher(text);
        int count = 0;
        while (matcher.find()) {
            count++;
        }
        return count;
    }

    /** Answers their names. A method or a constructor is a head with braces behind it; it ends where its braces are closed. */
    private static Set<String> methods(String code) {
        String head = "(?m)^ +(?:(?:public|private|static|final) )*(?:[\\w\\[\\]<>]+ )?(\\w+)\\(([^()]*)\\)"
            + "(?:\\s+throws [\\w,\\s]+)?\\s*\\{";
        Matcher matcher = Pattern.compile(head).matcher(code);
        Map<String, String> bodies = new TreeMap<>();
        while (matcher.find()) {
            String name = matcher.group(1);
            if (name.equals("if") || name.equals("for") || name.equals("switch")) {
                continue;
            }
            bodies.put(name, bodies.getOrDefault(name, "") + code.substring(matcher.end(), end(code, matcher.end())));
            int parameters = matcher.group(2).isBlank() ? 0 : matcher.group(2).split(",").length;
            Check.compare(name + " has at most seven parameters", "true", String.valueOf(parameters <= 7));
            int lines = code.substring(matcher.start(), end(code, matcher.end())).split("\n").length;
            Check.compare(name + " has at most 60 lines", "true", String.valueOf(lines <= 60));
        }
        Check.compare("methods are found", "true", String.valueOf(bodies.size() > 90));
        for (String name : bodies.keySet()) {
            // The eighth may be a call of the library.
            Check.compare(name + " calls at most eight deep", "true",
                String.valueOf(callsFrom(name, bodies, new HashSet<>()) < 8));
        }
        return bodies.keySet();
    }

    /** What is called by a dot and is no method of the file. */
    private static Set<String> libraryCalls(String code, Set<String> own) {
        Set<String> found = new TreeSet<>();
        Matcher matcher = Pattern.compile("\\.(\\w+)\\(").matcher(code);
        while (matcher.find()) {
            if (!own.contains(matcher.group(1))) {
                found.add(matcher.group(1));
            }
        }
        return found;
    }

    /** Of the methods that stand open, none is counted a second time: that would be recursion. */
    private static int callsFrom(String name, Map<String, String> bodies, Set<String> open) {
        open.add(name);
        int deepest = 0;
        Matcher matcher = Pattern.compile("(\\w+)\\(").matcher(bodies.get(name));
        while (matcher.find()) {
            String called = matcher.group(1);
            if (bodies.containsKey(called) && !open.contains(called)) {
                deepest = Math.max(deepest, callsFrom(called, bodies, open));
            }
        }
        open.remove(name);
        return deepest + 1;
    }

    private static int end(String code, int from) {
        int depth = 1;
        int place = from;
        while (place < code.length() && depth > 0) {
            depth += code.charAt(place) == '{' ? 1 : code.charAt(place) == '}' ? -1 : 0;
            place++;
        }
        return place;
    }
}
