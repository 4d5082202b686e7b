import java.util.ArrayList;
import java.util.List;
import java.util.function.Supplier;

/**
 * "Prices, rows and variants come by calls; amounts, costs and differences are asked.": what is answered follows
 * from the calls that have been made, however much was asked before them.
 */
public final class AskedBetweenTest {
    private static final List<Edge.Call> QUESTIONS = questions();

    public static void main(String[] args) {
        resourcesAndCrews();
        items();
        bill();
        variants();
        markups();
        questionsBetween();
        refusedCallsBetween();
        throughOneObject();
        Check.end();
    }

    /** Some of everything, and a variant that can't be turned on: item 2 would have itself as its part. */
    private static Takeoff house() {
        Takeoff x = Houses.some();
        x.addVariant();
        x.replaceItem(2, 1, 2);
        return x;
    }

    private static void resourcesAndCrews() {
        step("addResource", x -> x.addResource(Takeoff.PLANT, 7, 3, 4));
        step("setPrice", x -> x.setPrice(3, 14));
        step("setPrice to 0", x -> x.setPrice(4, 0));
        step("addCrew", x -> x.addCrew());
        step("addMember", x -> x.addMember(1, 2, 4));
    }

    private static void items() {
        step("addItem", x -> x.addItem(3));
        step("addPart", x -> x.addPart(4, 3, 2));
        step("addPart of a deep item", x -> x.addPart(2, 3, 9));
        step("addUse", x -> x.addUse(4, 0, 1));
        step("addUse in a part", x -> x.addUse(3, 0, 1));
        step("addWork", x -> x.addWork(4, 0, 99));
        step("addWork in a part", x -> x.addWork(1, 1, 5));
        step("dropLast of a use", x -> x.dropLast(3));
        step("dropLast of a work", x -> x.dropLast(2));
        step("dropLast of a part", x -> {
            x.dropLast(1);
            return x.dropLast(1);
        });
    }

    private static void bill() {
        step("addLine", x -> x.addLine(1));
        step("addRow", x -> x.addRow(0, 'r', 1, 7, 9, 0));
        step("addRow that is deducted", x -> x.addRow(2, 'n', -9, 0, 0, 0));
        step("dropRow", x -> x.dropRow(1));
        step("dropRow of a deducted one", x -> x.dropRow(2));
    }

    private static void variants() {
        step("addVariant", x -> x.addVariant());
        step("replaceItem", x -> x.replaceItem(1, 2, 4));
        step("replaceResource", x -> x.replaceResource(1, 4, 1));
        step("turn on", x -> x.turn(1, true));
        step("turn off", x -> x.turn(0, false));
    }

    private static void markups() {
        step("addMarkup", x -> x.addMarkup(50, 63));
        step("setPercent", x -> x.setPercent(0, 50));
        step("setPercent to 0", x -> x.setPercent(1, 0));
    }

    /** The call must change an answer, or else it would not show one that is left from before. */
    private static void step(String what, Edge.Call call) {
        String due = Answers.of(AskedBetweenTest::house, call);
        Check.compare(what + " changes an answer", "true",
            String.valueOf(!due.equals(Answers.of(AskedBetweenTest::house, x -> null))));
        Edge.same(what + ", and all was asked before", due, Answers.of(asked(AskedBetweenTest::house), call));
        for (int k = 0; k < QUESTIONS.size(); k++) {
            Edge.Call question = QUESTIONS.get(k);
            Takeoff fresh = house();
            Edge.outcome(fresh, call);
            Takeoff asked = asked(AskedBetweenTest::house).get();
            Edge.outcome(asked, question);
            Edge.outcome(asked, call);
            Check.compare(what + ", and question " + k + " was the last one before and is the first one behind it",
                Edge.outcome(fresh, question), Edge.outcome(asked, question));
        }
    }

    /** All that the house can be asked, and some that it can't. */
    private static List<Edge.Call> questions() {
        List<Edge.Call> all = new ArrayList<>(List.of(x -> x.rows(), x -> x.net(), x -> x.extra(), x -> x.total(),
            x -> x.factor(), x -> x.isSound(), x -> x.cheapestVariants()));
        for (int number = 0; number < 6; number++) {
            int k = number;
            all.addAll(List.of(x -> x.depthOf(k), x -> x.unitCost(k), x -> x.measure(k), x -> x.quantity(k)));
            all.addAll(List.of(x -> x.difference(k), x -> x.markup(k), x -> x.amount(k), x -> x.amountByTree(k)));
            all.addAll(List.of(x -> x.packs(k), x -> x.costOfLine(k), x -> x.costOfTrade(k), x -> x.costOfKind(k)));
            all.addAll(List.of(x -> x.dearest(k), x -> x.share(k)));
            for (int other = 0; other < 6; other++) {
                int resource = other;
                all.add(x -> x.needed(k, resource));
            }
        }
        return all;
    }

    private static void questionsBetween() {
        for (int k = 0; k < QUESTIONS.size(); k++) {
            between("question " + k, QUESTIONS.get(k));
        }
    }

    /** "A method that throws an exception changes nothing.": nor what has been asked before it and is asked again */
    private static void refusedCallsBetween() {
        refused("addResource", x -> x.addResource(3, 1, 0, 1));
        refused("setPrice", x -> x.setPrice(0, 10000));
        refused("addMember", x -> x.addMember(0, 1, 1));
        refused("addItem", x -> x.addItem(6));
        refused("addPart of itself", x -> x.addPart(1, 2, 1));
        refused("addPart too deep", x -> x.addPart(4, 2, 1));
        refused("addUse", x -> x.addUse(0, 0, 100));
        refused("addWork", x -> x.addWork(0, 2, 1));
        refused("dropLast", x -> x.dropLast(4));
        refused("addLine", x -> x.addLine(5));
        refused("addRow", x -> x.addRow(0, 'v', 99, 99, 99, 99));
        refused("dropRow", x -> x.dropRow(0));
        refused("replaceItem", x -> x.replaceItem(0, 0, 4));
        refused("replaceResource", x -> x.replaceResource(0, 1, 1));
        refused("turn", x -> x.turn(2, true));
        refused("addMarkup", x -> x.addMarkup(51, 1));
        refused("setPercent", x -> x.setPercent(0, 51));
    }

    private static void refused(String what, Edge.Call call) {
        Check.compare(what + " is refused", "throws", Edge.outcome(house(), call).split(" ")[0]);
        between(what, call);
    }

    /** Each question is asked before and behind a call that changes nothing. */
    private static void between(String what, Edge.Call call) {
        for (int k = 0; k < QUESTIONS.size(); k++) {
            Edge.Call question = QUESTIONS.get(k);
            Takeoff x = house();
            String due = Edge.outcome(x, question);
            Edge.outcome(x, call);
            Check.compare("question " + k + ", and again behind " + what, due, Edge.outcome(x, question));
        }
    }

    private static Supplier<Takeoff> asked(Supplier<Takeoff> make) {
        return () -> {
            Takeoff x = make.get();
            Answers.askAll(x);
            return x;
        };
    }

    /** 10 units of 3 MATERIALs for 20 cents, in packs of 7, or by variant 0 for 9 cents without packs. */
    private static void throughOneObject() {
        Supplier<Takeoff> make = () -> {
            Takeoff x = new Takeoff();
            x.addResource(Takeoff.MATERIAL, 20, 0, 7);
            x.addResource(Takeoff.MATERIAL, 9, 0, 1);
            x.addItem(0);
            x.addUse(0, 0, 3);
            x.addLine(0);
            x.addRow(0, 'n', 10, 0, 0, 0);
            x.addVariant();
            x.replaceResource(0, 0, 1);
            return x;
        };
        Edge.answers("the total, call by call",
            "700 20 1050 -780 false 270 0 405 50 351 2 468 11 514 10 468 1 351 true 1320", make,
            x -> x.total(), x -> x.setPrice(0, 30), x -> x.total(), x -> x.difference(0), x -> x.turn(0, true),
            x -> x.total(), x -> x.addMarkup(50, 1), x -> x.total(), x -> x.setPercent(0, 30), x -> x.total(),
            x -> x.addUse(0, 1, 1), x -> x.total(), x -> x.addRow(0, 'n', 1, 0, 0, 0), x -> x.total(),
            x -> x.dropRow(1), x -> x.total(), x -> x.dropLast(0), x -> x.total(), x -> x.turn(0, false),
            x -> x.total());
    }
}
