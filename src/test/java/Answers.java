import java.util.function.Supplier;

/**
 * All that an object answers after a call, told as one text: what it is asked, and what it answers when its
 * variants are turned, when it is emptied and when it is filled. Two objects with the same text are alike.
 * Each part asks an object of its own, so that none has more than 512 calls.
 */
final class Answers {
    private final Takeoff x;
    private final StringBuilder text;

    private Answers(Takeoff x, StringBuilder text) {
        this.x = x;
        this.text = text;
    }

    static String of(Supplier<Takeoff> make, Edge.Call before) {
        StringBuilder text = new StringBuilder();
        after(make, before, text).ask();
        after(make, before, text).turn();
        after(make, before, text).empty();
        after(make, before, text).fill();
        return text.toString();
    }

    /** Asks once whatever can be asked; what is answered is not looked at. */
    static void askAll(Takeoff x) {
        new Answers(x, new StringBuilder()).ask();
    }

    private static Answers after(Supplier<Takeoff> make, Edge.Call before, StringBuilder text) {
        Takeoff x = make.get();
        Edge.outcome(x, before);
        return new Answers(x, text);
    }

    private String tell(String name, Edge.Call call) {
        String outcome = Edge.outcome(x, call);
        text.append(name).append(' ').append(outcome).append("; ");
        return outcome;
    }

    /** Calls with the numbers from 0, up to the first that throws or the last that could be. */
    private int count(String name, int most, Edge.CallWith call) {
        for (int k = 0; k <= most; k++) {
            int number = k;
            if (tell(name + " " + k, y -> call.on(y, number)).startsWith("throws ")) {
                return k;
            }
        }
        return most + 1;
    }

    private void ask() {
        int resources = count("amount", 12, (y, k) -> y.amount(k));
        count("amountByTree", 12, (y, k) -> y.amountByTree(k));
        count("packs", 12, (y, k) -> y.packs(k));
        int items = count("depthOf", 12, (y, k) -> y.depthOf(k));
        count("unitCost", 12, (y, k) -> y.unitCost(k));
        for (int k = 0; k < items; k++) {
            int item = k;
            count("needed " + item, resources - 1, (y, resource) -> y.needed(item, resource));
        }
        count("measure", 40, (y, k) -> y.measure(k));
        count("quantity", 10, (y, k) -> y.quantity(k));
        count("costOfLine", 10, (y, k) -> y.costOfLine(k));
        count("markup", 4, (y, k) -> y.markup(k));
        count("costOfTrade", 5, (y, k) -> y.costOfTrade(k));
        count("costOfKind", 2, (y, k) -> y.costOfKind(k));
        count("share", 2, (y, k) -> y.share(k));
        count("dearest", 12, (y, k) -> y.dearest(k));
        for (int k = 0; k < 4; k++) {
            int variant = k;
            tell("difference " + k, y -> y.difference(variant));
        }
        tell("rows", y -> y.rows());
        tell("cheapestVariants", y -> y.cheapestVariants());
        tell("net", y -> y.net());
        tell("extra", y -> y.extra());
        tell("total", y -> y.total());
        tell("factor", y -> y.factor());
        tell("isSound", y -> y.isSound());
    }

    /** Through all sets, one variant at a time. */
    private void turn() {
        for (int step = 1; step < 16; step++) {
            int variant = Integer.numberOfTrailingZeros(step);
            boolean isOn = (step >> variant + 1 & 1) == 0;
            tell("turn " + variant, y -> y.turn(variant, isOn));
            tell("total", y -> y.total());
            count("unitCost", 11, (y, k) -> y.unitCost(k));
        }
    }

    private void empty() {
        for (int k = 0; k < 40; k++) {
            tell("dropRow 0", y -> y.dropRow(0));
        }
        count("quantity", 10, (y, k) -> y.quantity(k));
        for (int k = 0; k < 12; k++) {
            int item = k;
            count("dropLast " + item, 4, (y, drop) -> y.dropLast(item));
            count("unitCost", 3, (y, other) -> y.unitCost(other));
        }
    }

    private void fill() {
        int resources = count("setPrice", 12, (y, k) -> y.setPrice(k, 100 + k));
        for (int k = 0; k < 4; k++) {
            int crew = k;
            for (int resource = 0; resource < resources; resource++) {
                int member = resource;
                tell("addMember " + crew, y -> y.addMember(crew, member, 1));
            }
        }
        count("setPercent", 4, (y, k) -> y.setPercent(k, 10 + k));
        count("addResource", 12, (y, k) -> y.addResource(0, 1, 0, 1));
        count("addCrew", 4, (y, k) -> y.addCrew());
        count("addItem", 12, (y, k) -> y.addItem(0));
        count("addLine", 10, (y, k) -> y.addLine(0));
        count("addVariant", 4, (y, k) -> y.addVariant());
        count("addMarkup", 4, (y, k) -> y.addMarkup(50, 15));
        for (int k = 0; k < 6; k++) {
            int item = k;
            count("addUse " + item, 4, (y, use) -> y.addUse(item, item, 1 + use));
            tell("replaceItem " + k, y -> y.replaceItem(item % 4, item, item + 1));
            tell("replaceResource " + k, y -> y.replaceResource(item % 4, item, item + 3));
        }
        for (int k = 0; k < 41; k++) {
            int line = k % 10;
            tell("addRow " + line, y -> y.addRow(line, 'n', 1, 0, 0, 0));
        }
        count("costOfTrade", 5, (y, k) -> y.costOfTrade(k));
        tell("total", y -> y.total());
    }
}
