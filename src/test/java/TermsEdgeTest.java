import java.util.function.Supplier;

/** Boundary cases of the document's 'Terms' and of promise 1. Each comment quotes the sentence that is tested. */
public final class TermsEdgeTest {
    public static void main(String[] args) {
        newObject();
        lowestVariantThatIsOn();
        noneThatIsOn();
        notReplacedOnceMore();
        wherePartsAndLines();
        whereUsesAndCrews();
        membersThatMeanTheSame();
        enteredAsTheyStand();
        tradesOfItemsThatAreMeant();
        quantityOfZeroNeedsNothing();
        objectsApart();
        manyRefusedCalls();
        useOf512Calls();
        Check.end();
    }

    /** "Creates an estimator without resources, crews, items, lines, variants and mark-ups." */
    private static void newObject() {
        Edge.refused("1 no resource", Edge.BOUNDS, Takeoff::new, x -> x.amount(0));
        Edge.refused("1 no crew", Edge.BOUNDS, Houses::bare, x -> x.addMember(0, 0, 1));
        Edge.refused("1 no item", Edge.BOUNDS, Takeoff::new, x -> x.depthOf(0));
        Edge.refused("1 no line", Edge.BOUNDS, Takeoff::new, x -> x.quantity(0));
        Edge.refused("1 no row", Edge.BOUNDS, Takeoff::new, x -> x.measure(0));
        Edge.refused("1 no variant", Edge.BOUNDS, Takeoff::new, x -> x.difference(0));
        Edge.refused("1 no mark-up", Edge.BOUNDS, Takeoff::new, x -> x.markup(0));
        Edge.answers("1 the first of each", "0 0 0 0 0 0 0", Takeoff::new, x -> x.addResource(0, 1, 0, 1),
            x -> x.addCrew(), x -> x.addItem(0), x -> x.addLine(0), x -> x.rows(), x -> x.addVariant(),
            x -> x.addMarkup(0, 0));
    }

    /** Item 0 in a line of one unit; variant k replaces it by item k + 1, and its resource 0 by k + 1. */
    private static Takeoff choices(boolean byItems, int set) {
        Takeoff x = new Takeoff();
        for (int k = 0; k < 5; k++) {
            x.addResource(Takeoff.PLANT, 10 + k, 0, 1);
            x.addItem(k);
            x.addUse(k, k, 1);
        }
        x.addLine(0);
        x.addRow(0, 'n', 1, 0, 0, 0);
        for (int k = 0; k < 4; k++) {
            x.addVariant();
            if (byItems) {
                x.replaceItem(k, 0, k + 1);
            } else {
                x.replaceResource(k, 0, k + 1);
            }
        }
        for (int k = 3; k >= 0; k--) {
            x.turn(k, (set >> k & 1) == 1);
        }
        return x;
    }

    /** "the one by which the variant with the lowest number that is on and replaces it does so" */
    private static void lowestVariantThatIsOn() {
        for (int set = 1; set < 16; set++) {
            int on = set;
            int due = 11 + Integer.numberOfTrailingZeros(set);
            Edge.answer("items, set " + set, due, () -> choices(true, on), x -> x.net());
            Edge.answer("resources, set " + set, due, () -> choices(false, on), x -> x.net());
        }
        Edge.answers("a lower one that does not replace it", "1 false 13 false 13", TermsEdgeTest::other,
            x -> x.replaceItem(1, 0, 3), x -> x.turn(1, true), x -> x.net(), x -> x.turn(0, true), x -> x.net());
    }

    /** The same items and line; variant 0 replaces item 1, that is in no line, and variant 1 nothing. */
    private static Takeoff other() {
        Takeoff x = new Takeoff();
        for (int k = 0; k < 5; k++) {
            x.addResource(Takeoff.PLANT, 10 + k, 0, 1);
            x.addItem(k);
            x.addUse(k, k, 1);
        }
        x.addLine(0);
        x.addRow(0, 'n', 1, 0, 0, 0);
        x.addVariant();
        x.addVariant();
        x.replaceItem(0, 1, 4);
        return x;
    }

    /** "or the item itself if there is none" */
    private static void noneThatIsOn() {
        Edge.answer("items, no variant is on", 10, () -> choices(true, 0), x -> x.net());
        Edge.answer("resources, no variant is on", 10, () -> choices(false, 0), x -> x.net());
        Edge.answers("one that replaces others is on", "false 10", TermsEdgeTest::other, x -> x.turn(0, true),
            x -> x.net());
    }

    /** Variant 0 replaces 0 by 1 and 1 by 2, variant 1 replaces 1 by 3. */
    private static Takeoff inARow(boolean byItems) {
        Takeoff x = choices(true, 0);
        if (byItems) {
            x.replaceItem(0, 1, 2);
            x.replaceItem(1, 1, 3);
        } else {
            x.replaceItem(0, 0, 4);
            x.replaceItem(1, 0, 4);
            x.replaceResource(0, 4, 1);
            x.replaceResource(0, 1, 2);
            x.replaceResource(1, 1, 3);
        }
        x.turn(0, true);
        x.turn(1, true);
        return x;
    }

    /** "What is meant is not replaced once more." */
    private static void notReplacedOnceMore() {
        Edge.answer("items, neither by the same variant nor by another", 11, () -> inARow(true), x -> x.net());
        Edge.answer("resources, neither by the same nor by another", 11, () -> inARow(false), x -> x.net());
        for (boolean byItems : new boolean[] {true, false}) {
            Edge.answers("every answer, by items " + byItems, "11 0 1 0 0 1 0 11 true", () -> inARow(byItems),
                x -> x.costOfLine(0), x -> x.amount(0), x -> x.amount(1), x -> x.amount(2), x -> x.amountByTree(0),
                x -> x.amountByTree(1), x -> x.amountByTree(2), x -> x.costOfKind(Takeoff.PLANT), x -> x.isSound());
        }
        Edge.answers("the trade of the item that is meant", "0 11 0 0", () -> inARow(true), x -> x.costOfTrade(0),
            x -> x.costOfTrade(1), x -> x.costOfTrade(2), x -> x.costOfTrade(3));
        Edge.answer("two that replace each other", 3 * 11 + 10, TermsEdgeTest::eachOther, x -> x.net());
    }

    /** Three units of item 0 and one of item 1, that replace each other. */
    private static Takeoff eachOther() {
        Takeoff x = choices(true, 0);
        x.addRow(0, 'n', 2, 0, 0, 0);
        x.addLine(1);
        x.addRow(1, 'n', 1, 0, 0, 0);
        x.replaceItem(0, 1, 0);
        x.turn(0, true);
        return x;
    }

    /** "Wherever an item stands in a part or in a line" */
    private static void wherePartsAndLines() {
        Supplier<Takeoff> make = () -> {
            Takeoff x = choices(true, 1);
            x.addItem(5);
            x.addPart(5, 0, 7);
            x.addLine(5);
            x.addRow(1, 'n', 1, 0, 0, 0);
            return x;
        };
        Edge.answers("in a line and in a part", "11 77 88 true 80", make, x -> x.costOfLine(0),
            x -> x.costOfLine(1), x -> x.net(), x -> x.turn(0, false), x -> x.net());
    }

    /** "Wherever a resource stands in a use or in a crew, the resource that is meant is found in the same way." */
    private static void whereUsesAndCrews() {
        Supplier<Takeoff> make = () -> {
            Takeoff x = choices(false, 1);
            x.addCrew();
            x.addMember(0, 0, 3);
            x.addWork(0, 0, 5);
            return x;
        };
        Edge.answers("in a use and in a crew", "0 16 176 true 16 0 160", make, x -> x.amount(0), x -> x.amount(1),
            x -> x.net(), x -> x.turn(0, false), x -> x.amount(0), x -> x.amount(1), x -> x.net());
    }

    /** "Wherever an item stands .. the item that is meant is the one by which the variant .. that is on": when asked */
    private static void enteredAsTheyStand() {
        Edge.answers("a line that is added while it is replaced", "1 1 22 true 20", () -> choices(true, 1),
            x -> x.addLine(0), x -> x.addRow(1, 'n', 1, 0, 0, 0), x -> x.net(), x -> x.turn(0, false),
            x -> x.net());
        Edge.answers("a part that is added while it is replaced", "2 25 true 24", () -> choices(true, 1),
            x -> x.addPart(4, 0, 1), x -> x.unitCost(4), x -> x.turn(0, false), x -> x.unitCost(4));
        Edge.answers("a use that is added while it is replaced", "2 25 true 24", () -> choices(false, 1),
            x -> x.addUse(4, 0, 1), x -> x.unitCost(4), x -> x.turn(0, false), x -> x.unitCost(4));
        Edge.answers("a member that is added while it is replaced", "0 1 2 25 true 24", () -> choices(false, 1),
            x -> x.addCrew(), x -> x.addMember(0, 0, 1), x -> x.addWork(4, 0, 1), x -> x.unitCost(4),
            x -> x.turn(0, false), x -> x.unitCost(4));
    }

    private static void membersThatMeanTheSame() {
        Supplier<Takeoff> make = () -> {
            Takeoff x = choices(false, 1);
            x.addCrew();
            x.addMember(0, 0, 3);
            x.addMember(0, 1, 4);
            x.addWork(0, 0, 5);
            return x;
        };
        Edge.answers("two members for which one resource is meant", "0 36 36", make, x -> x.amount(0),
            x -> x.amount(1), x -> x.amountByTree(1));
    }

    /** "The cost of a trade is the part of the net cost that comes from uses and works of items of this trade" */
    private static void tradesOfItemsThatAreMeant() {
        Edge.answers("the trade of the item that is meant", "0 11 true 10 0", () -> choices(true, 1),
            x -> x.costOfTrade(0), x -> x.costOfTrade(1), x -> x.turn(0, false), x -> x.costOfTrade(0),
            x -> x.costOfTrade(1));
    }

    /** "for each line as many units of the item that is meant are needed as its quantity" */
    private static void quantityOfZeroNeedsNothing() {
        Edge.answers("a line that comes to 0", "0 0 0 throws NoSuchElementException", () -> choices(true, 1),
            x -> x.addRow(0, 'n', -1, 0, 0, 0), x -> x.net(), x -> x.amount(1), x -> x.dearest(0));
    }

    private static void objectsApart() {
        Takeoff one = Houses.some();
        Takeoff other = Houses.some();
        String before = Answers.of(() -> Houses.some(), x -> null);
        one.turn(0, false);
        one.setPrice(0, 9999);
        Check.due("each object has its own price", 20, () -> other.setPrice(0, 20));
        Check.dueFlag("and its own variants", true, () -> other.turn(0, true));
        Check.compare("and a new one has nothing of theirs", before, Answers.of(() -> Houses.some(), x -> null));
    }

    /** "A method that throws an exception changes nothing.": not even when many of them come one after the other */
    private static void manyRefusedCalls() {
        Edge.asks("many refused calls", Houses::some, x -> {
            for (int k = 0; k < 10; k++) {
                Edge.outcome(x, y -> y.addPart(1, 2, 1));
                Edge.outcome(x, y -> y.addPart(0, 2, 10));
                Edge.outcome(x, y -> y.addRow(0, 'v', -9, 99, 99, 99));
                Edge.outcome(x, y -> y.addMember(0, 0, 1));
                Edge.outcome(x, y -> y.replaceItem(0, 0, 1));
                Edge.outcome(x, y -> y.addMarkup(51, 0));
            }
            return null;
        });
    }

    /** "An object is used for at most 512 calls after it has been made": the last of them is answered like the first. */
    private static void useOf512Calls() {
        Takeoff x = choices(true, 0);
        // 29 calls make it, 482 more add and drop a row, and the last one asks.
        for (int k = 0; k < 241; k++) {
            int times = 1 + k % 99;
            Check.due("row added, round " + k, 1 + times, () -> x.addRow(0, 'n', times, 0, 0, 0));
            Check.due("row dropped, round " + k, 1, () -> x.dropRow(1));
        }
        Check.due("the 512th call", 10, () -> x.net());
    }
}
