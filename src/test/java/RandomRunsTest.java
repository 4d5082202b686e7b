import java.util.ArrayList;
import java.util.Arrays;
import java.util.List;
import java.util.Map;
import java.util.TreeMap;

/** All promises: many runs of calls, right and wrong ones, with the same answers as the oracle's. */
public final class RandomRunsTest {
    private static final int RUNS = 400;
    private static final int CALLS = 512;

    /** How often an exception or an answer came, by the method's name. */
    private static final Map<String, Integer> SEEN = new TreeMap<>();

    /** Each method's name, how often it is called, its arguments, and the exceptions that must come. */
    private static final String[] METHODS = {
        "addResource 6 kind price waste pack : IllegalArgumentException IllegalStateException",
        "setPrice 4 resource price : IndexOutOfBoundsException IllegalArgumentException",
        "addCrew 3 : IllegalStateException",
        "addMember 6 crew resource nine : IndexOutOfBoundsException IllegalArgumentException"
            + " UnsupportedOperationException IllegalStateException",
        "addItem 6 trade : IllegalArgumentException IllegalStateException",
        "addPart 12 item item nine : IndexOutOfBoundsException IllegalArgumentException"
            + " IllegalStateException UnsupportedOperationException",
        "addUse 9 item resource hundred : IndexOutOfBoundsException IllegalArgumentException IllegalStateException",
        "addWork 5 item crew hundred : IndexOutOfBoundsException IllegalArgumentException IllegalStateException",
        "dropLast 4 item : IndexOutOfBoundsException IllegalStateException",
        "depthOf 3 item : IndexOutOfBoundsException",
        "unitCost 3 item : IndexOutOfBoundsException",
        "needed 3 item resource : IndexOutOfBoundsException",
        "addLine 4 item : IndexOutOfBoundsException IllegalStateException",
        "addRow 26 line shape times size size size : IndexOutOfBoundsException IllegalArgumentException"
            + " IllegalStateException ArithmeticException",
        "dropRow 3 row : IndexOutOfBoundsException ArithmeticException",
        "measure 2 row : IndexOutOfBoundsException",
        "quantity 2 line : IndexOutOfBoundsException",
        "rows 1 :",
        "addVariant 2 : IllegalStateException",
        "replaceItem 5 variant item item : IndexOutOfBoundsException IllegalArgumentException IllegalStateException",
        "replaceResource 5 variant resource resource : IndexOutOfBoundsException IllegalArgumentException"
            + " IllegalStateException",
        "turn 6 variant flag : IndexOutOfBoundsException UnsupportedOperationException",
        "difference 3 variant : IndexOutOfBoundsException UnsupportedOperationException",
        "cheapestVariants 1 :",
        "addMarkup 2 percent bases : IllegalStateException IllegalArgumentException",
        "setPercent 2 markup percent : IndexOutOfBoundsException IllegalArgumentException",
        "markup 2 markup : IndexOutOfBoundsException",
        "amount 2 resource : IndexOutOfBoundsException",
        "amountByTree 2 resource : IndexOutOfBoundsException",
        "packs 2 resource : IndexOutOfBoundsException",
        "costOfLine 2 line : IndexOutOfBoundsException",
        "costOfTrade 2 trade : IllegalArgumentException",
        "costOfKind 2 kind : IllegalArgumentException",
        "net 1 :",
        "extra 1 :",
        "total 2 :",
        "dearest 2 rank : NoSuchElementException",
        "share 1 kind : IllegalArgumentException ArithmeticException",
        "factor 1 : ArithmeticException",
        "isSound 1 :",
    };

    private static long seed = 20261119;

    public static void main(String[] args) {
        List<String[]> often = new ArrayList<>();
        for (String method : METHODS) {
            String[] words = method.substring(0, method.indexOf(" :")).split(" ");
            for (int k = 0; k < Integer.parseInt(words[1]); k++) {
                often.add(words);
            }
        }
        for (int run = 0; run < RUNS && oneRun(run, often); run++) {
            continue;
        }
        for (String method : METHODS) {
            String name = method.substring(0, method.indexOf(' '));
            checkSeen(name + " answers");
            String exceptions = method.substring(method.indexOf(':') + 1).trim();
            for (String exception : exceptions.isEmpty() ? new String[0] : exceptions.split(" ")) {
                checkSeen(name + " throws " + exception);
            }
        }
        Check.end();
    }

    private static void checkSeen(String what) {
        Check.compare("some run has: " + what, "true", String.valueOf(SEEN.getOrDefault(what, 0) > 0));
    }

    private static boolean oneRun(int run, List<String[]> often) {
        Takeoff x = new Takeoff();
        Oracle oracle = new Oracle();
        StringBuilder told = new StringBuilder();
        for (int call = 0; call < CALLS; call++) {
            String[] words = often.get(below(often.size()));
            int[] a = new int[words.length - 2];
            for (int k = 0; k < a.length; k++) {
                a[k] = argument(words[k + 2], oracle);
            }
            String want = oracle.answer(words[0], a);
            String got = answer(x, words[0], a);
            told.append("    ").append(words[0]).append(Arrays.toString(a)).append(" ").append(got).append('\n');
            SEEN.merge(words[0] + (want.startsWith("throws ") ? " " + want : " answers"), 1, Integer::sum);
            Check.compare("run " + run + ", call " + call + ", " + words[0], want, got);
            if (!want.equals(got)) {
                System.out.print(told);
                return false;
            }
        }
        return true;
    }

    // ---- arguments: mostly right ones, some just outside, a few far away

    private static int below(int bound) {
        seed = seed * 6364136223846793005L + 1442695040888963407L;
        return (int) ((seed >>> 33) % bound);
    }

    private static int argument(String what, Oracle oracle) {
        int choice = below(200);
        if (choice == 0) {
            return new int[] {Integer.MIN_VALUE, Integer.MAX_VALUE, -1, 1 << 16}[below(4)];
        }
        boolean isEdge = choice < 12;
        switch (what) {
            case "kind":
                return within(0, 2, isEdge);
            case "price":
                return below(4) == 0 ? within(0, 9999, isEdge) : within(0, 20, isEdge);
            case "waste":
            case "percent":
                return within(0, 50, isEdge);
            case "pack":
                return within(1, 99, isEdge);
            case "hundred":
                return within(1, 99, isEdge);
            case "nine":
                return within(1, 9, isEdge);
            case "trade":
                return within(0, 5, isEdge);
            case "shape":
                return isEdge ? below(65536) : "nlrtpv".charAt(below(6));
            case "times":
                return below(3) == 0 ? within(-9, 99, isEdge) : within(-2, 6, isEdge);
            case "size":
                return below(6) == 0 ? within(0, 99, isEdge) : within(0, 12, isEdge);
            case "flag":
                return below(2);
            case "bases":
                return within(0, (16 << oracle.markups()) - 1, isEdge);
            case "rank":
                return below(3) == 0 ? within(0, 11, isEdge) : within(0, 2, isEdge);
            default:
                return number(what, oracle, isEdge);
        }
    }

    private static int number(String what, Oracle oracle, boolean isEdge) {
        int count = what.equals("resource") ? oracle.resources()
            : what.equals("crew") ? oracle.crews()
            : what.equals("item") ? oracle.items()
            : what.equals("line") ? oracle.lines()
            : what.equals("row") ? oracle.rows()
            : what.equals("variant") ? oracle.variants()
            : oracle.markups();
        return within(0, Math.max(count - 1, 0), isEdge);
    }

    private static int within(int least, int most, boolean isEdge) {
        return isEdge ? new int[] {least - 1, least, most, most + 1}[below(4)] : least + below(most - least + 1);
    }

    // ---- the same call of the class

    private static String answer(Takeoff x, String name, int[] a) {
        try {
            return call(x, name, a);
        } catch (RuntimeException e) {
            return "throws " + Check.nameOf(e);
        }
    }

    private static String call(Takeoff x, String name, int[] a) {
        switch (name) {
            case "addResource": return String.valueOf(x.addResource(a[0], a[1], a[2], a[3]));
            case "setPrice": return String.valueOf(x.setPrice(a[0], a[1]));
            case "addCrew": return String.valueOf(x.addCrew());
            case "addMember": return String.valueOf(x.addMember(a[0], a[1], a[2]));
            case "addItem": return String.valueOf(x.addItem(a[0]));
            case "addPart": return String.valueOf(x.addPart(a[0], a[1], a[2]));
            case "addUse": return String.valueOf(x.addUse(a[0], a[1], a[2]));
            case "addWork": return String.valueOf(x.addWork(a[0], a[1], a[2]));
            case "dropLast": return String.valueOf(x.dropLast(a[0]));
            case "depthOf": return String.valueOf(x.depthOf(a[0]));
            case "unitCost": return String.valueOf(x.unitCost(a[0]));
            case "needed": return String.valueOf(x.needed(a[0], a[1]));
            case "addLine": return String.valueOf(x.addLine(a[0]));
            case "addRow": return String.valueOf(x.addRow(a[0], (char) a[1], a[2], a[3], a[4], a[5]));
            case "dropRow": return String.valueOf(x.dropRow(a[0]));
            case "measure": return String.valueOf(x.measure(a[0]));
            case "quantity": return String.valueOf(x.quantity(a[0]));
            case "rows": return String.valueOf(x.rows());
            case "addVariant": return String.valueOf(x.addVariant());
            case "replaceItem": return String.valueOf(x.replaceItem(a[0], a[1], a[2]));
            case "replaceResource": return String.valueOf(x.replaceResource(a[0], a[1], a[2]));
            case "turn": return String.valueOf(x.turn(a[0], a[1] != 0));
            case "difference": return String.valueOf(x.difference(a[0]));
            case "cheapestVariants": return String.valueOf(x.cheapestVariants());
            case "addMarkup": return String.valueOf(x.addMarkup(a[0], a[1]));
            case "setPercent": return String.valueOf(x.setPercent(a[0], a[1]));
            case "markup": return String.valueOf(x.markup(a[0]));
            case "amount": return String.valueOf(x.amount(a[0]));
            case "amountByTree": return String.valueOf(x.amountByTree(a[0]));
            case "packs": return String.valueOf(x.packs(a[0]));
            case "costOfLine": return String.valueOf(x.costOfLine(a[0]));
            case "costOfTrade": return String.valueOf(x.costOfTrade(a[0]));
            case "costOfKind": return String.valueOf(x.costOfKind(a[0]));
            case "net": return String.valueOf(x.net());
            case "extra": return String.valueOf(x.extra());
            case "total": return String.valueOf(x.total());
            case "dearest": return String.valueOf(x.dearest(a[0]));
            case "share": return String.valueOf(x.share(a[0]));
            case "factor": return String.valueOf(x.factor());
            case "isSound": return String.valueOf(x.isSound());
            default: throw new AssertionError(name);
        }
    }
}
