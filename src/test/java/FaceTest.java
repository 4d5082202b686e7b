import java.io.IOException;
import java.lang.reflect.Constructor;
import java.lang.reflect.Field;
import java.lang.reflect.Method;
import java.lang.reflect.Modifier;
import java.nio.file.Files;
import java.nio.file.Path;
import java.util.Arrays;
import java.util.Set;
import java.util.TreeSet;
import java.util.regex.Matcher;
import java.util.regex.Pattern;

/** The public face, its constants, and promise 1: what a new object answers. */
public final class FaceTest {
    private static final String[] METHODS = {
        "int addResource(int,int,int,int) IllegalArgumentException IllegalStateException",
        "int setPrice(int,int) IndexOutOfBoundsException IllegalArgumentException",
        "int addCrew() IllegalStateException",
        "int addMember(int,int,int) IndexOutOfBoundsException IllegalArgumentException"
            + " UnsupportedOperationException IllegalStateException",
        "int addItem(int) IllegalArgumentException IllegalStateException",
        "int addPart(int,int,int) IndexOutOfBoundsException IllegalArgumentException"
            + " IllegalStateException UnsupportedOperationException",
        "int addUse(int,int,int) IndexOutOfBoundsException IllegalArgumentException IllegalStateException",
        "int addWork(int,int,int) IndexOutOfBoundsException IllegalArgumentException IllegalStateException",
        "int dropLast(int) IndexOutOfBoundsException IllegalStateException",
        "int depthOf(int) IndexOutOfBoundsException",
        "long unitCost(int) IndexOutOfBoundsException",
        "long needed(int,int) IndexOutOfBoundsException",
        "int addLine(int) IndexOutOfBoundsException IllegalStateException",
        "int addRow(int,char,int,int,int,int) IndexOutOfBoundsException IllegalArgumentException"
            + " IllegalStateException ArithmeticException",
        "int dropRow(int) IndexOutOfBoundsException ArithmeticException",
        "int measure(int) IndexOutOfBoundsException",
        "int quantity(int) IndexOutOfBoundsException",
        "int rows()",
        "int addVariant() IllegalStateException",
        "int replaceItem(int,int,int) IndexOutOfBoundsException IllegalArgumentException IllegalStateException",
        "int replaceResource(int,int,int) IndexOutOfBoundsException IllegalArgumentException"
            + " IllegalStateException",
        "boolean turn(int,boolean) IndexOutOfBoundsException UnsupportedOperationException",
        "long difference(int) IndexOutOfBoundsException UnsupportedOperationException",
        "int cheapestVariants()",
        "int addMarkup(int,int) IllegalStateException IllegalArgumentException",
        "int setPercent(int,int) IndexOutOfBoundsException IllegalArgumentException",
        "long markup(int) IndexOutOfBoundsException",
        "long amount(int) IndexOutOfBoundsException",
        "long amountByTree(int) IndexOutOfBoundsException",
        "long packs(int) IndexOutOfBoundsException",
        "long costOfLine(int) IndexOutOfBoundsException",
        "long costOfTrade(int) IllegalArgumentException",
        "long costOfKind(int) IllegalArgumentException",
        "long net()",
        "long extra()",
        "long total()",
        "int dearest(int) NoSuchElementException",
        "float share(int) IllegalArgumentException ArithmeticException",
        "double factor() ArithmeticException",
        "boolean isSound()",
    };

    public static void main(String[] args) throws IOException {
        face();
        asInTheDocument();
        constants();
        newObject();
        Check.end();
    }

    private static void face() {
        Check.compare("the class", "public final", Modifier.toString(Takeoff.class.getModifiers()));
        Set<String> methods = new TreeSet<>();
        Set<String> privateNames = new TreeSet<>();
        Set<String> publicNames = new TreeSet<>();
        for (Method method : Takeoff.class.getDeclaredMethods()) {
            if (Modifier.isPrivate(method.getModifiers())) {
                privateNames.add(method.getName());
            } else {
                publicNames.add(method.getName());
                methods.add(describe(method));
            }
        }
        Check.compare("the methods", new TreeSet<>(Arrays.asList(METHODS)).toString(), methods.toString());
        privateNames.retainAll(publicNames);
        Check.compare("private methods with public names", "[]", privateNames.toString());
        for (Constructor<?> constructor : Takeoff.class.getDeclaredConstructors()) {
            Check.compare("the constructor", "public Takeoff()", constructor.toString());
        }
        Set<String> fields = new TreeSet<>();
        for (Field field : Takeoff.class.getDeclaredFields()) {
            if (!Modifier.isPrivate(field.getModifiers())) {
                fields.add(field.toString());
            }
            if (Modifier.isStatic(field.getModifiers())) {
                Check.compare(field.getName() + " is final", "true",
                    String.valueOf(Modifier.isFinal(field.getModifiers())));
            }
        }
        Check.compare("the constants' types", "[public static final int Takeoff.LABOUR,"
            + " public static final int Takeoff.MATERIAL, public static final int Takeoff.PLANT]", fields.toString());
    }

    /** Word by word what stands under 'The public face', with the names of the parameters. */
    private static void asInTheDocument() throws IOException {
        String document = Files.readString(Path.of("..", "shared", "DOC.md"));
        String face = document.substring(document.indexOf("```java"), document.indexOf("## Terms"));
        String program = Files.readString(Path.of("src", "main", "java", "Takeoff.java"));
        Check.compare("all that is public", publicIn(face).toString(), publicIn(program).toString());
        Check.compare("so many are public", "45", String.valueOf(publicIn(face).size()));
    }

    private static Set<String> publicIn(String text) {
        Set<String> found = new TreeSet<>();
        Matcher matcher = Pattern.compile("(?m)^ *(public [^;{]*)[;{]").matcher(text);
        while (matcher.find()) {
            found.add(matcher.group(1).trim().replaceAll("\\s+", " "));
        }
        return found;
    }

    private static String describe(Method method) {
        StringBuilder text = new StringBuilder();
        text.append(method.getReturnType().getSimpleName()).append(' ').append(method.getName()).append('(');
        String comma = "";
        for (Class<?> type : method.getParameterTypes()) {
            text.append(comma).append(type.getSimpleName());
            comma = ",";
        }
        text.append(')');
        for (Class<?> type : method.getExceptionTypes()) {
            text.append(' ').append(type.getSimpleName());
        }
        return text.toString();
    }

    private static void constants() {
        Check.due("MATERIAL", 0, () -> Takeoff.MATERIAL);
        Check.due("LABOUR", 1, () -> Takeoff.LABOUR);
        Check.due("PLANT", 2, () -> Takeoff.PLANT);
    }

    private static void newObject() {
        Takeoff x = new Takeoff();
        Check.thrown("no resource", IndexOutOfBoundsException.class, () -> x.amount(0));
        Check.thrown("no crew, but an item", IndexOutOfBoundsException.class, () -> x.addWork(0, 0, 1));
        Check.thrown("no item", IndexOutOfBoundsException.class, () -> x.depthOf(0));
        Check.thrown("no line", IndexOutOfBoundsException.class, () -> x.quantity(0));
        Check.thrown("no row", IndexOutOfBoundsException.class, () -> x.measure(0));
        Check.thrown("no variant", IndexOutOfBoundsException.class, () -> x.turn(0, false));
        Check.thrown("no mark-up", IndexOutOfBoundsException.class, () -> x.markup(0));
        Check.due("rows", 0, () -> x.rows());
        Check.due("net", 0, () -> x.net());
        Check.due("extra", 0, () -> x.extra());
        Check.due("total", 0, () -> x.total());
        Check.due("cheapestVariants", 0, () -> x.cheapestVariants());
        Check.due("addResource", 0, () -> x.addResource(0, 1, 0, 1));
        Check.due("addCrew", 0, () -> x.addCrew());
        Check.due("addItem", 0, () -> x.addItem(0));
        Check.thrown("still no other crew", IndexOutOfBoundsException.class, () -> x.addWork(0, 1, 1));
        Check.due("addLine", 0, () -> x.addLine(0));
        Check.due("addVariant", 0, () -> x.addVariant());
        Check.due("addMarkup", 0, () -> x.addMarkup(0, 0));
        Takeoff other = new Takeoff();
        Check.thrown("two objects share nothing", IndexOutOfBoundsException.class, () -> other.amount(0));
    }
}
