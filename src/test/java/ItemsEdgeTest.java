import java.util.function.Supplier;

/** Boundary cases of promises 6 to 13: items. Each comment quotes the sentence that is tested. */
public final class ItemsEdgeTest {
    public static void main(String[] args) {
        addItemTrade();
        addItemWithoutComponents();
        addItemTwelve();
        addItemOrder();
        addPartItems();
        addPartQuantity();
        addPartFourComponents();
        addPartNeedsItself();
        addPartItselfMeantByAnother();
        addPartOwnDepth();
        addPartDepthAbove();
        addPartOnlyTheSetThatIsOn();
        addPartReturns();
        addPartOrder();
        addUseNumbers();
        addUseQuantity();
        addUseFourComponents();
        addUseOrder();
        addWorkNumbers();
        addWorkMinutes();
        addWorkFourComponents();
        addWorkOrder();
        dropLastItem();
        dropLastEmpty();
        dropLastIsTheLast();
        dropLastMakesRoom();
        depthOfItem();
        depthOfOneToThree();
        depthOfGreatest();
        depthOfMeant();
        unitCostItem();
        unitCostNothing();
        unitCostGreatest();
        unitCostMeantItself();
        unitCostWithoutWaste();
        neededNumbers();
        neededNothing();
        neededGreatest();
        neededMeantItself();
        Check.end();
    }

    /** Items of trades 0, 1, 2.. without components, a MATERIAL, a LABOUR for 1 cent each, and a crew of one. */
    private static Takeoff items(int count) {
        Takeoff x = new Takeoff();
        x.addResource(Takeoff.MATERIAL, 1, 0, 1);
        x.addResource(Takeoff.LABOUR, 1, 0, 1);
        x.addCrew();
        x.addMember(0, 1, 1);
        for (int k = 0; k < count; k++) {
            x.addItem(k % 6);
        }
        return x;
    }

    /** Six items, of which each of the first so many has the next one as its part. */
    private static Takeoff chain(int links) {
        Takeoff x = items(6);
        for (int k = links - 1; k >= 0; k--) {
            x.addPart(k, k + 1, 1);
        }
        return x;
    }

    /** Item 0 with so many components of one type: part, use or work. */
    private static Takeoff components(int count, char type) {
        Takeoff x = items(2);
        for (int k = 0; k < count; k++) {
            if (type == 'p') {
                x.addPart(0, 1, 1);
            } else if (type == 'u') {
                x.addUse(0, 0, 1);
            } else {
                x.addWork(0, 0, 1);
            }
        }
        return x;
    }

    // ---- promise 6

    /** "trade: the trade, 0 to 5" */
    private static void addItemTrade() {
        Edge.range("6 trade", 0, 5, Edge.ARGUMENT, Houses::some, (x, trade) -> x.addItem(trade));
        for (int k = 0; k < 6; k += 5) {
            int trade = k;
            Edge.answers("6 trade " + k + " is kept", "0 1 0 1 1 0", () -> items(0), x -> x.addItem(trade),
                x -> x.addUse(0, 0, 1), x -> x.addLine(0), x -> x.addRow(0, 'n', 1, 0, 0, 0),
                x -> x.costOfTrade(trade), x -> x.costOfTrade(5 - trade));
        }
    }

    /** "Adds an item without components." */
    private static void addItemWithoutComponents() {
        Edge.answers("6 no components", "0 0 1 throws IllegalStateException", () -> items(0), x -> x.addItem(3),
            x -> x.unitCost(0), x -> x.depthOf(0), x -> x.dropLast(0));
    }

    /** "At most 12 items exist, numbered from 0." "Throws IllegalStateException if there are 12 items" */
    private static void addItemTwelve() {
        Edge.answer("6 the first of all", 0, Takeoff::new, x -> x.addItem(0));
        Edge.answer("6 the 12th", 11, () -> items(11), x -> x.addItem(5));
        Edge.refused("6 a 13th", Edge.STATE, () -> items(12), x -> x.addItem(5));
        Edge.refused("6 a 13th where all is full", Edge.STATE, Houses::full, x -> x.addItem(0));
        Edge.answers("6 a refused one takes no number", "throws IllegalArgumentException 5", Houses::some,
            x -> x.addItem(6), x -> x.addItem(0));
    }

    private static void addItemOrder() {
        Edge.refused("6 trade 6 before full", Edge.ARGUMENT, Houses::full, x -> x.addItem(6));
        Edge.refused("6 trade -1 before full", Edge.ARGUMENT, Houses::full, x -> x.addItem(-1));
    }

    // ---- promise 7

    /** "Throws IndexOutOfBoundsException if there is no such item, for either" */
    private static void addPartItems() {
        Edge.numbers("7 no items", 0, Takeoff::new, (x, item) -> x.addPart(item, item, 1));
        Edge.numbers("7 item", 5, () -> items(5), (x, item) -> x.addPart(item, 2, 1));
        Edge.numbers("7 part", 5, () -> items(5), (x, part) -> x.addPart(2, part, 1));
        Edge.numbers("7 item of 12", 12, () -> items(12), (x, item) -> x.addPart(item, 5, 1));
        Edge.numbers("7 part of 12", 12, () -> items(12), (x, part) -> x.addPart(5, part, 1));
    }

    /** "quantity: the quantity, 1 to 9" */
    private static void addPartQuantity() {
        Edge.range("7 quantity", 1, 9, Edge.ARGUMENT, Houses::some, (x, quantity) -> x.addPart(4, 3, quantity));
        for (int k = 1; k <= 9; k += 8) {
            int quantity = k;
            Edge.answers("7 quantity " + k + " counts", "1 2 " + k, () -> items(2), x -> x.addUse(1, 0, 1),
                x -> x.addPart(0, 1, quantity), x -> x.needed(0, 0));
        }
    }

    /** "at most 4 components" "Throws IllegalStateException if the item has 4 components" */
    private static void addPartFourComponents() {
        for (char type : new char[] {'p', 'u', 'w'}) {
            Edge.answer("7 a fourth component behind " + type, 2, () -> components(3, type), x -> x.addPart(0, 1, 1));
            Edge.refused("7 a fifth component behind " + type, Edge.STATE, () -> components(4, type),
                x -> x.addPart(0, 1, 1));
        }
        Edge.refused("7 where all is full", Edge.STATE, Houses::full, x -> x.addPart(11, 2, 1));
    }

    /** "Throws UnsupportedOperationException if an item would need itself" */
    private static void addPartNeedsItself() {
        Edge.refused("7 itself", Edge.UNSUPPORTED, () -> items(3), x -> x.addPart(1, 1, 1));
        Edge.refused("7 one of which it is a part", Edge.UNSUPPORTED, () -> chain(1), x -> x.addPart(1, 0, 1));
        Edge.refused("7 one of which it is a part of a part", Edge.UNSUPPORTED, () -> chain(2), x -> x.addPart(2, 0, 1));
        Edge.refused("7 itself behind other components", Edge.UNSUPPORTED, () -> components(3, 'u'),
            x -> x.addPart(0, 0, 9));
        Edge.refused("7 the last item itself", Edge.UNSUPPORTED, () -> items(12), x -> x.addPart(11, 11, 1));
    }

    /** Variant 0 replaces item 0 by item 1. */
    private static Takeoff replaced(boolean isOn) {
        Takeoff x = items(4);
        x.addVariant();
        x.replaceItem(0, 0, 1);
        x.turn(0, isOn);
        return x;
    }

    /** "it can be the item itself, as long as another item is meant" */
    private static void addPartItselfMeantByAnother() {
        Edge.answers("7 itself, another meant", "1 2 5", () -> replaced(true), x -> x.addUse(1, 0, 5),
            x -> x.addPart(0, 0, 1), x -> x.needed(0, 0));
        Edge.refused("7 itself, the variant is off", Edge.UNSUPPORTED, () -> replaced(false), x -> x.addPart(0, 0, 1));
        Edge.refused("7 another, but itself is meant", Edge.UNSUPPORTED, () -> replaced(true), x -> x.addPart(1, 0, 1));
        Edge.answer("7 another that is replaced", 2, () -> replaced(true), x -> x.addPart(3, 0, 1));
    }

    /** "no depth is greater than 3": of the item that gets the part */
    private static void addPartOwnDepth() {
        Edge.answer("7 a part of depth 1", 2, () -> chain(0), x -> x.addPart(5, 0, 1));
        Edge.answer("7 a part of depth 2", 3, () -> chain(1), x -> x.addPart(5, 0, 1));
        Edge.refused("7 a part of depth 3", Edge.UNSUPPORTED, () -> chain(2), x -> x.addPart(5, 0, 1));
        Edge.refused("7 a part of which one of depth 3 is meant", Edge.UNSUPPORTED, ItemsEdgeTest::deepIsMeant,
            x -> x.addPart(5, 4, 1));
        Edge.answer("7 one of depth 3 is replaced by one of depth 1", 2, ItemsEdgeTest::deepIsMeant,
            x -> x.addPart(5, 0, 1));
    }

    /** Item 0 of depth 3 and item 4 of depth 1 replace each other. */
    private static Takeoff deepIsMeant() {
        Takeoff x = chain(2);
        x.addVariant();
        x.replaceItem(0, 4, 0);
        x.replaceItem(0, 0, 4);
        x.turn(0, true);
        return x;
    }

    /** "no depth is greater than 3": of an item that needs the one that gets the part */
    private static void addPartDepthAbove() {
        Edge.answers("7 below one of depth 2", "2 3", () -> chain(1), x -> x.addPart(1, 5, 1), x -> x.depthOf(0));
        Edge.refused("7 below one of depth 3", Edge.UNSUPPORTED, () -> chain(2), x -> x.addPart(2, 5, 1));
        Edge.answers("7 in the middle, a part of depth 1", "2 3", () -> chain(2), x -> x.addPart(1, 5, 1),
            x -> x.depthOf(0));
        Edge.refused("7 in the middle, a part of depth 2", Edge.UNSUPPORTED, ItemsEdgeTest::chainAndPair,
            x -> x.addPart(1, 4, 1));
        Edge.answer("7 at the top, a part of depth 2", 3, ItemsEdgeTest::chainAndPair, x -> x.addPart(0, 4, 1));
    }

    private static Takeoff chainAndPair() {
        Takeoff x = chain(2);
        x.addPart(4, 5, 1);
        return x;
    }

    /** "the item that is meant is the one by which the variant .. that is on .. does so" */
    private static void addPartOnlyTheSetThatIsOn() {
        Edge.answers("7 what would be too deep if a variant were on", "2 throws UnsupportedOperationException",
            ItemsEdgeTest::deepIsMeantOff, x -> x.addPart(5, 4, 1), x -> x.turn(0, true));
        Edge.refused("7 what would fit if a variant were on", Edge.UNSUPPORTED, ItemsEdgeTest::deepIsMeantOff,
            x -> x.addPart(5, 0, 1));
    }

    private static Takeoff deepIsMeantOff() {
        Takeoff x = deepIsMeant();
        x.turn(0, false);
        return x;
    }

    /** "Returns the depth of the item after the call." */
    private static void addPartReturns() {
        Edge.answers("7 a lower part behind a higher one", "3 3 3", () -> chain(1), x -> x.addPart(4, 0, 1),
            x -> x.addPart(4, 5, 1), x -> x.depthOf(4));
        Edge.answers("7 a higher part behind a lower one", "2 3", () -> chain(1), x -> x.addPart(4, 5, 1),
            x -> x.addPart(4, 0, 1));
    }

    private static void addPartOrder() {
        Supplier<Takeoff> fullItem = () -> components(4, 'u');
        Edge.refused("7 item before quantity", Edge.BOUNDS, fullItem, x -> x.addPart(2, 0, 0));
        Edge.refused("7 part before quantity", Edge.BOUNDS, fullItem, x -> x.addPart(1, 2, 10));
        Edge.refused("7 part before full", Edge.BOUNDS, fullItem, x -> x.addPart(0, 2, 1));
        Edge.refused("7 part before quantity and full", Edge.BOUNDS, fullItem, x -> x.addPart(0, -1, 0));
        Edge.refused("7 quantity before full", Edge.ARGUMENT, fullItem, x -> x.addPart(0, 1, 10));
        Edge.refused("7 quantity before itself", Edge.ARGUMENT, fullItem, x -> x.addPart(1, 1, 0));
        Edge.refused("7 quantity before full and itself", Edge.ARGUMENT, fullItem, x -> x.addPart(0, 0, 0));
        Edge.refused("7 quantity before too deep", Edge.ARGUMENT, () -> chain(2), x -> x.addPart(5, 0, 10));
        Edge.refused("7 full before itself", Edge.STATE, fullItem, x -> x.addPart(0, 0, 1));
        Edge.refused("7 full before too deep", Edge.STATE, ItemsEdgeTest::fullBesideChain, x -> x.addPart(5, 0, 1));
    }

    private static Takeoff fullBesideChain() {
        Takeoff x = chain(2);
        for (int k = 0; k < 4; k++) {
            x.addUse(5, 0, 1);
        }
        return x;
    }

    // ---- promise 8

    /** "Throws IndexOutOfBoundsException if there is no such item or no such resource" */
    private static void addUseNumbers() {
        Edge.numbers("8 no items", 0, () -> items(0), (x, item) -> x.addUse(item, 0, 1));
        Edge.numbers("8 no resources", 0, ItemsEdgeTest::onlyItem, (x, resource) -> x.addUse(0, resource, 1));
        Edge.numbers("8 item", 5, Houses::some, (x, item) -> x.addUse(item, 0, 1));
        Edge.numbers("8 resource", 5, Houses::some, (x, resource) -> x.addUse(0, resource, 1));
        Edge.numbers("8 item of 12", 12, () -> items(12), (x, item) -> x.addUse(item, 0, 1));
        Edge.numbers("8 resource of 12", 12, () -> dropOne(Houses.full()), (x, resource) -> x.addUse(0, resource, 1));
    }

    private static Takeoff onlyItem() {
        Takeoff x = new Takeoff();
        x.addItem(0);
        return x;
    }

    private static Takeoff dropOne(Takeoff x) {
        x.dropLast(0);
        return x;
    }

    /** "quantity: the quantity, 1 to 99" */
    private static void addUseQuantity() {
        Edge.range("8 quantity", 1, 99, Edge.ARGUMENT, Houses::some, (x, quantity) -> x.addUse(4, 0, quantity));
        Edge.answers("8 quantity 1 counts", "1 1", () -> items(1), x -> x.addUse(0, 0, 1), x -> x.needed(0, 0));
        Edge.answers("8 quantity 99 counts", "1 99", () -> items(1), x -> x.addUse(0, 0, 99), x -> x.needed(0, 0));
    }

    /** "Throws IllegalStateException if the item has 4 components" */
    private static void addUseFourComponents() {
        for (char type : new char[] {'p', 'u', 'w'}) {
            Edge.answer("8 a fourth component behind " + type, 4, () -> components(3, type), x -> x.addUse(0, 0, 1));
            Edge.refused("8 a fifth component behind " + type, Edge.STATE, () -> components(4, type),
                x -> x.addUse(0, 0, 1));
        }
        Edge.refused("8 where all is full", Edge.STATE, Houses::full, x -> x.addUse(11, 11, 99));
        Edge.answers("8 the numbers of components", "1 2 3 4 throws IllegalStateException", () -> items(2),
            x -> x.addUse(1, 0, 1), x -> x.addUse(1, 0, 1), x -> x.addUse(1, 0, 1), x -> x.addUse(1, 0, 1),
            x -> x.addUse(1, 0, 1));
    }

    private static void addUseOrder() {
        Supplier<Takeoff> fullItem = () -> components(4, 'p');
        Edge.refused("8 item before quantity", Edge.BOUNDS, fullItem, x -> x.addUse(2, 0, 0));
        Edge.refused("8 resource before quantity", Edge.BOUNDS, fullItem, x -> x.addUse(1, 2, 100));
        Edge.refused("8 resource before full", Edge.BOUNDS, fullItem, x -> x.addUse(0, 2, 1));
        Edge.refused("8 quantity before full", Edge.ARGUMENT, fullItem, x -> x.addUse(0, 0, 100));
        Edge.refused("8 quantity 0 before full", Edge.ARGUMENT, fullItem, x -> x.addUse(0, 0, 0));
    }

    // ---- promise 9

    /** "Throws IndexOutOfBoundsException if there is no such item or no such crew" */
    private static void addWorkNumbers() {
        Edge.numbers("9 no items", 0, () -> items(0), (x, item) -> x.addWork(item, 0, 1));
        Edge.numbers("9 no crews", 0, ItemsEdgeTest::onlyItem, (x, crew) -> x.addWork(0, crew, 1));
        Edge.numbers("9 item", 5, Houses::some, (x, item) -> x.addWork(item, 0, 1));
        Edge.numbers("9 crew", 2, Houses::some, (x, crew) -> x.addWork(0, crew, 1));
        Edge.numbers("9 item of 12", 12, () -> items(12), (x, item) -> x.addWork(item, 0, 1));
        Edge.numbers("9 crew of 4", 4, () -> dropOne(Houses.full()), (x, crew) -> x.addWork(0, crew, 1));
    }

    /** "minutes: the minutes, 1 to 99" */
    private static void addWorkMinutes() {
        Edge.range("9 minutes", 1, 99, Edge.ARGUMENT, Houses::some, (x, minutes) -> x.addWork(4, 0, minutes));
        Edge.answers("9 minutes 1 count", "1 1", () -> items(1), x -> x.addWork(0, 0, 1), x -> x.needed(0, 1));
        Edge.answers("9 minutes 99 count", "1 99", () -> items(1), x -> x.addWork(0, 0, 99), x -> x.needed(0, 1));
    }

    /** "Throws IllegalStateException if the item has 4 components" */
    private static void addWorkFourComponents() {
        for (char type : new char[] {'p', 'u', 'w'}) {
            Edge.answer("9 a fourth component behind " + type, 4, () -> components(3, type), x -> x.addWork(0, 0, 1));
            Edge.refused("9 a fifth component behind " + type, Edge.STATE, () -> components(4, type),
                x -> x.addWork(0, 0, 1));
        }
        Edge.refused("9 where all is full", Edge.STATE, Houses::full, x -> x.addWork(11, 3, 99));
        Edge.answers("9 the numbers of components", "1 2 3 4 throws IllegalStateException", () -> items(2),
            x -> x.addWork(1, 0, 1), x -> x.addWork(1, 0, 1), x -> x.addWork(1, 0, 1), x -> x.addWork(1, 0, 1),
            x -> x.addWork(1, 0, 1));
    }

    private static void addWorkOrder() {
        Supplier<Takeoff> fullItem = () -> components(4, 'p');
        Edge.refused("9 item before minutes", Edge.BOUNDS, fullItem, x -> x.addWork(2, 0, 0));
        Edge.refused("9 crew before minutes", Edge.BOUNDS, fullItem, x -> x.addWork(1, 1, 100));
        Edge.refused("9 crew before full", Edge.BOUNDS, fullItem, x -> x.addWork(0, 1, 1));
        Edge.refused("9 minutes before full", Edge.ARGUMENT, fullItem, x -> x.addWork(0, 0, 100));
        Edge.refused("9 minutes 0 before full", Edge.ARGUMENT, fullItem, x -> x.addWork(0, 0, 0));
    }

    // ---- promise 10

    /** "Throws IndexOutOfBoundsException if there is no such item" */
    private static void dropLastItem() {
        Edge.numbers("10 no items", 0, Takeoff::new, (x, item) -> x.dropLast(item));
        Edge.numbers("10 item", 4, ItemsEdgeTest::fourWithUses, (x, item) -> x.dropLast(item));
        Edge.numbers("10 item of 12", 12, Houses::full, (x, item) -> x.dropLast(item));
    }

    private static Takeoff fourWithUses() {
        Takeoff x = items(4);
        for (int k = 0; k < 4; k++) {
            x.addUse(k, 0, 1);
        }
        return x;
    }

    /** "Throws IllegalStateException if it has no components" "Returns the number of components after the call." */
    private static void dropLastEmpty() {
        Edge.refused("10 no components", Edge.STATE, Houses::some, x -> x.dropLast(4));
        for (char type : new char[] {'p', 'u', 'w'}) {
            Edge.answers("10 from four to none of " + type, "3 2 1 0 throws IllegalStateException",
                () -> components(4, type), x -> x.dropLast(0), x -> x.dropLast(0), x -> x.dropLast(0),
                x -> x.dropLast(0), x -> x.dropLast(0));
            Edge.refused("10 all dropped of " + type, Edge.STATE, () -> dropOne(components(1, type)),
                x -> x.dropLast(0));
        }
    }

    /** "Drops the last component of an item." */
    private static void dropLastIsTheLast() {
        Edge.answers("10 the last of three", "1 2 3 63 2 60 1 50", () -> items(1), x -> x.addUse(0, 0, 50),
            x -> x.addWork(0, 0, 10), x -> x.addUse(0, 0, 3), x -> x.unitCost(0), x -> x.dropLast(0),
            x -> x.unitCost(0), x -> x.dropLast(0), x -> x.unitCost(0));
        Edge.answers("10 a part, and the depths with it", "3 2 0 2 1", () -> chain(2), x -> x.depthOf(0),
            x -> x.depthOf(1), x -> x.dropLast(1), x -> x.depthOf(0), x -> x.depthOf(1));
    }

    private static void dropLastMakesRoom() {
        Edge.answers("10 room for a component", "throws IllegalStateException 3 4", () -> components(4, 'u'),
            x -> x.addUse(0, 0, 1), x -> x.dropLast(0), x -> x.addUse(0, 0, 1));
        Edge.answers("10 room for depth", "throws UnsupportedOperationException 0 2", () -> chain(2),
            x -> x.addPart(2, 3, 1), x -> x.dropLast(0), x -> x.addPart(2, 3, 1));
    }

    // ---- promise 11

    /** "Throws IndexOutOfBoundsException if there is no such item" */
    private static void depthOfItem() {
        Edge.numbers("11 no items", 0, Takeoff::new, (x, item) -> x.depthOf(item));
        Edge.numbers("11 item", 5, Houses::some, (x, item) -> x.depthOf(item));
        Edge.numbers("11 item of 12", 12, Houses::full, (x, item) -> x.depthOf(item));
        Edge.asks("11 asks only", Houses::some, x -> x.depthOf(2));
    }

    /** "The depth of an item is 1 if it has no parts" "Returns the depth, 1 to 3." */
    private static void depthOfOneToThree() {
        Edge.answer("11 no components", 1, () -> items(1), x -> x.depthOf(0));
        Edge.answer("11 only uses", 1, () -> components(4, 'u'), x -> x.depthOf(0));
        Edge.answer("11 only works", 1, () -> components(4, 'w'), x -> x.depthOf(0));
        Edge.answer("11 parts of depth 1", 2, () -> components(4, 'p'), x -> x.depthOf(0));
        Edge.answers("11 a chain", "3 2 1", () -> chain(2), x -> x.depthOf(0), x -> x.depthOf(1), x -> x.depthOf(2));
    }

    /** "otherwise 1 plus the greatest depth of the items that are meant in its parts" */
    private static void depthOfGreatest() {
        Edge.answers("11 the greatest first", "3 3 3", () -> chain(1), x -> x.addPart(4, 0, 1),
            x -> x.addPart(4, 2, 1), x -> x.depthOf(4));
        Edge.answers("11 the greatest last", "2 3 3", () -> chain(1), x -> x.addPart(4, 2, 1),
            x -> x.addPart(4, 0, 1), x -> x.depthOf(4));
    }

    private static void depthOfMeant() {
        Edge.answers("11 the items that are meant", "2 false 3 true 2", ItemsEdgeTest::partOfReplaced,
            x -> x.depthOf(5), x -> x.turn(0, true), x -> x.depthOf(5), x -> x.turn(0, false), x -> x.depthOf(5));
        Edge.answers("11 the item itself though it is replaced", "false 1 2", ItemsEdgeTest::partOfReplaced,
            x -> x.turn(0, true), x -> x.depthOf(4), x -> x.depthOf(0));
    }

    /** Item 5 has the part 4, which variant 0 replaces by item 0 of depth 2. */
    private static Takeoff partOfReplaced() {
        Takeoff x = chain(1);
        x.addPart(5, 4, 1);
        x.addVariant();
        x.replaceItem(0, 4, 0);
        return x;
    }

    // ---- promise 12

    /** "Throws IndexOutOfBoundsException if there is no such item" */
    private static void unitCostItem() {
        Edge.numbers("12 no items", 0, Takeoff::new, (x, item) -> x.unitCost(item));
        Edge.numbers("12 item", 5, Houses::some, (x, item) -> x.unitCost(item));
        Edge.numbers("12 item of 12", 12, Houses::full, (x, item) -> x.unitCost(item));
        Edge.asks("12 asks only", Houses::some, x -> x.unitCost(2));
    }

    private static void unitCostNothing() {
        Edge.answer("12 no components", 0, () -> items(1), x -> x.unitCost(0));
        Edge.answer("12 parts without components", 0, () -> components(4, 'p'), x -> x.unitCost(0));
        Edge.answers("12 a resource for nothing", "1 0", () -> components(4, 'u'), x -> x.setPrice(0, 0),
            x -> x.unitCost(0));
    }

    /** Each of three LABOURs costs 9999 cents, and nine of each are 99 minutes in each of four works. */
    private static Takeoff greatest() {
        Takeoff x = new Takeoff();
        x.addCrew();
        for (int k = 0; k < 3; k++) {
            x.addResource(Takeoff.LABOUR, 9999, 0, 1);
            x.addMember(0, k, 9);
            x.addItem(0);
        }
        for (int k = 0; k < 4; k++) {
            x.addWork(2, 0, 99);
            x.addPart(1, 2, 9);
            x.addPart(0, 1, 9);
        }
        x.addVariant();
        x.replaceResource(0, 0, 2);
        x.replaceResource(0, 1, 2);
        return x;
    }

    /** A cost beyond an int: "long unitCost(int item)" */
    private static void unitCostGreatest() {
        long needed = 3L * 4 * 9 * 99 * 36 * 36;
        Edge.answer("12 the greatest", needed * 9999, ItemsEdgeTest::greatest, x -> x.unitCost(0));
    }

    /** "what the resources of one unit of an item cost, the item itself being meant" */
    private static void unitCostMeantItself() {
        Edge.answers("12 the item itself, though it is replaced", "760 13 true 1040 13", Houses::some,
            x -> x.unitCost(0), x -> x.unitCost(3), x -> x.turn(0, false), x -> x.unitCost(0), x -> x.unitCost(3));
    }

    /** "without waste, packs and mark-ups" */
    private static void unitCostWithoutWaste() {
        Edge.answer("12 without waste, packs and mark-ups", 300, ItemsEdgeTest::costly, x -> x.unitCost(0));
    }

    private static Takeoff costly() {
        Takeoff x = new Takeoff();
        x.addResource(Takeoff.MATERIAL, 100, 50, 99);
        x.addMarkup(50, 1 + 8);
        x.addItem(0);
        x.addUse(0, 0, 3);
        x.addLine(0);
        x.addRow(0, 'n', 7, 0, 0, 0);
        return x;
    }

    // ---- promise 13

    /** "Throws IndexOutOfBoundsException if there is no such item or no such resource" */
    private static void neededNumbers() {
        Edge.numbers("13 no items", 0, () -> items(0), (x, item) -> x.needed(item, 0));
        Edge.numbers("13 no resources", 0, ItemsEdgeTest::onlyItem, (x, resource) -> x.needed(0, resource));
        Edge.numbers("13 item", 5, Houses::some, (x, item) -> x.needed(item, 0));
        Edge.numbers("13 resource", 5, Houses::some, (x, resource) -> x.needed(0, resource));
        Edge.numbers("13 item of 12", 12, Houses::full, (x, item) -> x.needed(item, 0));
        Edge.numbers("13 resource of 12", 12, Houses::full, (x, resource) -> x.needed(0, resource));
        Edge.asks("13 asks only", Houses::some, x -> x.needed(2, 3));
    }

    private static void neededNothing() {
        Edge.answer("13 no components", 0, () -> items(1), x -> x.needed(0, 0));
        Edge.answer("13 another resource", 0, () -> components(4, 'u'), x -> x.needed(0, 1));
        Edge.answer("13 a resource for nothing is needed all the same", 4, ItemsEdgeTest::usesForNothing,
            x -> x.needed(0, 0));
    }

    private static Takeoff usesForNothing() {
        Takeoff x = components(4, 'u');
        x.setPrice(0, 0);
        return x;
    }

    /** "as many units of its resource as the minutes times the number of the member" */
    private static void neededGreatest() {
        long needed = 4L * 9 * 99 * 36 * 36;
        Edge.answers("13 the greatest", needed + " false 0 " + 3 * needed, ItemsEdgeTest::greatest,
            x -> x.needed(0, 2), x -> x.turn(0, true), x -> x.needed(0, 0), x -> x.needed(0, 2));
    }

    /** "the item itself and the resource itself being meant" */
    private static void neededMeantItself() {
        Edge.answers("13 the item itself, though it is replaced", "3 1", Houses::some, x -> x.needed(0, 0),
            x -> x.needed(3, 3));
        Edge.answers("13 the resource itself, though it is replaced", "0 20 true 20 0", Houses::some,
            x -> x.needed(0, 1), x -> x.needed(0, 4), x -> x.turn(0, false), x -> x.needed(0, 1),
            x -> x.needed(0, 4));
    }
}
