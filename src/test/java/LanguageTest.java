import java.io.IOException;
import java.nio.charset.StandardCharsets;
import java.nio.file.Files;
import java.nio.file.Path;
import java.util.regex.Matcher;
import java.util.regex.Pattern;

/** What a reader of the text can count of ../shared/LANGUAGE.md; run where src/main/java/Takeoff.java is found. */
public final class LanguageTest {
    private static final Path SOURCE = Path.of("src", "main", "java", "Takeoff.java");

    /** What the rules forbid, or what the program does without though they don't. */
    private static final String[] WITHOUT = {
        "->", "::", "\\bpackage\\b", "\\btry\\b", "\\bcatch\\b", "\\bfinally\\b", "\\bsynchronized\\b",
        "\\bassert\\b", "\\binstanceof\\b", "\\bvar\\b", "static\\s*\\{", "\\bSystem\\b", "\\bThread\\b",
        "\\bequals\\b", "\\bhashCode\\b", "\\btoString\\b", "\\bgetMessage\\b", "\\bObject\\b", "Exact\\(",
        "\\bRandom\\b", "\\bNaN\\b", "\\bprotected\\b", "\\[\\]\\[\\]\\[\\]", "\\bwhile\\b", "\\bString\\b",
    };

    public static void main(String[] args) throws IOException {
        byte[] bytes = Files.readAllBytes(SOURCE);
        String text = new String(bytes, StandardCharsets.ISO_8859_1);
        for (byte sign : bytes) {
            if (sign < 1) {
                Check.compare("signs are 1 to 127", "true", "false");
            }
        }
        imports(text);
        String code = text.replaceAll("(?s)/\\*.*?\\*/", "").replaceAll("//[^\n]*", "").replaceAll("\"[^\"\n]*\"", "\"\"");
        for (String without : WITHOUT) {
            Check.compare("without " + without, "0", String.valueOf(count(code, without)));
        }
        Check.compare("no texts joined by +", "0", String.valueOf(count(code, "\"\\s*\\+|\\+\\s*\"")));
        int classes = count(code, "\\b(class|interface|enum|record)\\s+[A-Z]");
        Check.compare("at most twelve classes", "true", String.valueOf(classes <= 12));
        int nested = count(code, "private static (final |abstract )?(class|interface|enum|record)\\s+[A-Z]");
        Check.compare("all but one are private and static", String.valueOf(classes - 1), String.valueOf(nested));
        methods(code);
        Check.end();
    }

    private static void imports(String text) {
        Matcher matcher = Pattern.compile("(?m)^import (.*);$").matcher(text);
        StringBuilder found = new StringBuilder();
        while (matcher.find()) {
            found.append(found.length() == 0 ? "" : " ").append(matcher.group(1));
        }
        Check.compare("the imports", "java.util.ArrayList java.util.Arrays java.util.NoSuchElementException",
            found.toString());
    }

    private static int count(String text, String pattern) {
        Matcher matcher = Pattern.compile(pattern).matcher(text);
        int count = 0;
        while (matcher.find()) {
            count++;
        }
        return count;
    }

    /** A method or a constructor is a head with braces behind it; it ends where its braces are closed. */
    private static void methods(String code) {
        String head = "(?m)^ +(?:(?:public|private|static|final) )*(?:[\\w\\[\\]<>]+ )?(\\w+)\\(([^()]*)\\)"
            + "(?:\\s+throws [\\w,\\s]+)?\\s*\\{";
        Matcher matcher = Pattern.compile(head).matcher(code);
        int found = 0;
        while (matcher.find()) {
            String name = matcher.group(1);
            if (name.equals("if") || name.equals("for") || name.equals("switch")) {
                continue;
            }
            found++;
            int parameters = matcher.group(2).isBlank() ? 0 : matcher.group(2).split(",").length;
            Check.compare(name + " has at most seven parameters", "true", String.valueOf(parameters <= 7));
            int lines = code.substring(matcher.start(), end(code, matcher.end())).split("\n").length;
            Check.compare(name + " has at most 60 lines", "true", String.valueOf(lines <= 60));
        }
        Check.compare("methods are found", "true", String.valueOf(found > 90));
    }

    private static int end(String code, int from) {
        int depth = 1;
        int place = from;
        while (place < code.length() && depth > 0) {
            depth += code.charAt(place) == '{' ? 1 : code.charAt(place) == '}' ? -1 : 0;
            place++;
        }
        return place;
    }
}
