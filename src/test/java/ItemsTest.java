/** Promises 6 to 13: items. */
public final class ItemsTest {
    public static void main(String[] args) {
        addItem();
        addPart();
        addPartWrong();
        addPartToItself();
        addPartDepths();
        addPartWithVariants();
        addUse();
        addWork();
        dropLast();
        depthOf();
        unitCost();
        needed();
        Check.end();
    }

    private static Takeoff withItems(int count) {
        Takeoff x = new Takeoff();
        for (int k = 0; k < count; k++) {
            x.addItem(k % 6);
        }
        return x;
    }

    private static void addItem() {
        Takeoff x = new Takeoff();
        for (int trade : new int[] {-1, 6, Integer.MIN_VALUE, Integer.MAX_VALUE}) {
            Check.thrown("trade " + trade, IllegalArgumentException.class, () -> x.addItem(trade));
        }
        for (int k = 0; k < 12; k++) {
            int number = k;
            Check.due("item " + k, number, () -> x.addItem(number % 6));
        }
        Check.thrown("a 13th", IllegalStateException.class, () -> x.addItem(0));
        Check.thrown("a wrong 13th", IllegalArgumentException.class, () -> x.addItem(6));
        Check.due("a new item's depth", 1, () -> x.depthOf(11));
        Check.thrown("a new item's components", IllegalStateException.class, () -> x.dropLast(11));
        Check.thrown("item 12", IndexOutOfBoundsException.class, () -> x.depthOf(12));
    }

    private static void addPart() {
        Takeoff x = withItems(4);
        x.addResource(0, 1, 0, 1);
        x.addUse(0, 0, 3);
        Check.due("depth 2", 2, () -> x.addPart(1, 0, 1));
        Check.due("depth 3", 3, () -> x.addPart(2, 1, 9));
        Check.due("the greatest depth counts", 3, () -> x.addPart(2, 0, 2));
        Check.due("the same part once more", 3, () -> x.addPart(2, 0, 2));
        Check.due("27 and 6 and 6", 39, () -> x.needed(2, 0));
        Check.due("four components, the last", 3, () -> x.addPart(2, 3, 1));
        Check.thrown("a fifth", IllegalStateException.class, () -> x.addPart(2, 3, 1));
    }

    private static void addPartWrong() {
        Takeoff x = withItems(3);
        Check.thrown("item 3", IndexOutOfBoundsException.class, () -> x.addPart(3, 0, 1));
        Check.thrown("item -1", IndexOutOfBoundsException.class, () -> x.addPart(-1, 0, 0));
        Check.thrown("part 3", IndexOutOfBoundsException.class, () -> x.addPart(0, 3, 10));
        Check.thrown("part -1", IndexOutOfBoundsException.class, () -> x.addPart(0, -1, 1));
        Check.thrown("quantity 0", IllegalArgumentException.class, () -> x.addPart(0, 1, 0));
        Check.thrown("quantity 10", IllegalArgumentException.class, () -> x.addPart(0, 0, 10));
        x.addResource(0, 1, 0, 1);
        for (int k = 0; k < 4; k++) {
            x.addUse(0, 0, 1);
        }
        Check.thrown("quantity 10 in a full item", IllegalArgumentException.class, () -> x.addPart(0, 0, 10));
        Check.thrown("itself in a full item", IllegalStateException.class, () -> x.addPart(0, 0, 1));
        Check.thrown("itself", UnsupportedOperationException.class, () -> x.addPart(1, 1, 1));
        Check.thrown("and nothing is kept", IllegalStateException.class, () -> x.dropLast(1));
    }

    private static void addPartToItself() {
        Takeoff x = withItems(3);
        x.addVariant();
        x.replaceItem(0, 0, 1);
        Check.thrown("the variant is off", UnsupportedOperationException.class, () -> x.addPart(0, 0, 2));
        x.turn(0, true);
        Check.due("another item is meant", 2, () -> x.addPart(0, 0, 2));
        x.addResource(0, 1, 0, 1);
        x.addUse(1, 0, 5);
        Check.due("twice the other", 10, () -> x.needed(0, 0));
        Check.thrown("itself is meant by another", UnsupportedOperationException.class, () -> x.addPart(1, 0, 1));
        Check.thrown("off, it would need itself", UnsupportedOperationException.class, () -> x.turn(0, false));
        x.dropLast(0);
        Check.dueFlag("off, now that it is dropped", true, () -> x.turn(0, false));
    }

    private static void addPartDepths() {
        Takeoff x = withItems(5);
        x.addPart(0, 1, 1);
        x.addPart(1, 2, 1);
        Check.thrown("below, depth 4", UnsupportedOperationException.class, () -> x.addPart(2, 3, 1));
        Check.thrown("above, depth 4", UnsupportedOperationException.class, () -> x.addPart(3, 0, 1));
        Check.thrown("a ring of three", UnsupportedOperationException.class, () -> x.addPart(2, 0, 1));
        Check.thrown("a ring of two", UnsupportedOperationException.class, () -> x.addPart(1, 0, 1));
        Check.due("depths are as before", 3, () -> x.depthOf(0));
        Check.due("depths are as before", 1, () -> x.depthOf(2));
        Check.due("depths are as before", 1, () -> x.depthOf(3));
        Check.due("beside it", 3, () -> x.addPart(3, 1, 1));
        Check.due("a part shared", 2, () -> x.addPart(4, 2, 1));
        Check.due("a part shared by all", 3, () -> x.addPart(0, 4, 1));
        Check.thrown("a middle one deeper", UnsupportedOperationException.class, () -> x.addPart(4, 1, 1));
        Check.thrown("a longer chain of new items", UnsupportedOperationException.class, () -> x.addPart(2, 4, 1));
    }

    private static void addPartWithVariants() {
        Takeoff x = withItems(5);
        x.addVariant();
        x.replaceItem(0, 4, 1);
        x.addPart(1, 2, 1);
        x.addPart(2, 3, 1);
        x.turn(0, true);
        Check.thrown("the meant item is too deep", UnsupportedOperationException.class, () -> x.addPart(0, 4, 1));
        x.turn(0, false);
        Check.due("the item itself is not", 2, () -> x.addPart(0, 4, 1));
        Check.thrown("on, it would be", UnsupportedOperationException.class, () -> x.turn(0, true));
        x.dropLast(2);
        x.turn(0, true);
        Check.due("the depth as it is meant", 3, () -> x.depthOf(0));
        Check.due("a replaced item's own depth does not change", 1, () -> x.depthOf(4));
    }

    private static void addUse() {
        Takeoff x = withItems(2);
        x.addResource(0, 2, 0, 1);
        Check.thrown("item 2", IndexOutOfBoundsException.class, () -> x.addUse(2, 0, 0));
        Check.thrown("item -1", IndexOutOfBoundsException.class, () -> x.addUse(-1, 0, 1));
        Check.thrown("resource 1", IndexOutOfBoundsException.class, () -> x.addUse(0, 1, 100));
        Check.thrown("resource -1", IndexOutOfBoundsException.class, () -> x.addUse(0, -1, 1));
        Check.thrown("quantity 0", IllegalArgumentException.class, () -> x.addUse(0, 0, 0));
        Check.thrown("quantity 100", IllegalArgumentException.class, () -> x.addUse(0, 0, 100));
        Check.due("one", 1, () -> x.addUse(0, 0, 1));
        Check.due("the same once more", 2, () -> x.addUse(0, 0, 99));
        Check.due("both count", 100, () -> x.needed(0, 0));
        x.addUse(0, 0, 1);
        Check.due("four", 4, () -> x.addUse(0, 0, 1));
        Check.thrown("five", IllegalStateException.class, () -> x.addUse(0, 0, 1));
        Check.thrown("five, quantity 100", IllegalArgumentException.class, () -> x.addUse(0, 0, 100));
        Check.due("still", 102, () -> x.needed(0, 0));
        Check.due("the other item", 0, () -> x.needed(1, 0));
    }

    private static void addWork() {
        Takeoff x = withItems(2);
        x.addResource(1, 2, 0, 1);
        x.addCrew();
        x.addMember(0, 0, 9);
        Check.thrown("item 2", IndexOutOfBoundsException.class, () -> x.addWork(2, 0, 0));
        Check.thrown("item -1", IndexOutOfBoundsException.class, () -> x.addWork(-1, 0, 1));
        Check.thrown("crew 1", IndexOutOfBoundsException.class, () -> x.addWork(0, 1, 100));
        Check.thrown("crew -1", IndexOutOfBoundsException.class, () -> x.addWork(0, -1, 1));
        Check.thrown("minutes 0", IllegalArgumentException.class, () -> x.addWork(0, 0, 0));
        Check.thrown("minutes 100", IllegalArgumentException.class, () -> x.addWork(0, 0, 100));
        Check.due("one", 1, () -> x.addWork(0, 0, 99));
        Check.due("minutes times the number", 891, () -> x.needed(0, 0));
        Check.due("two", 2, () -> x.addWork(0, 0, 1));
        x.addUse(0, 0, 5);
        Check.due("four", 4, () -> x.addWork(0, 0, 1));
        Check.thrown("five", IllegalStateException.class, () -> x.addWork(0, 0, 1));
        Check.thrown("five, minutes 0", IllegalArgumentException.class, () -> x.addWork(0, 0, 0));
        Check.due("all of them count", 914, () -> x.needed(0, 0));
    }

    private static void dropLast() {
        Takeoff x = withItems(3);
        x.addResource(0, 2, 0, 1);
        Check.thrown("item 3", IndexOutOfBoundsException.class, () -> x.dropLast(3));
        Check.thrown("item -1", IndexOutOfBoundsException.class, () -> x.dropLast(-1));
        Check.thrown("no components", IllegalStateException.class, () -> x.dropLast(0));
        x.addUse(0, 0, 7);
        x.addPart(0, 1, 1);
        x.addUse(0, 0, 50);
        Check.due("two are left", 2, () -> x.dropLast(0));
        Check.due("the last is gone", 7, () -> x.needed(0, 0));
        Check.due("the part is there", 2, () -> x.depthOf(0));
        Check.due("one is left", 1, () -> x.dropLast(0));
        Check.due("the part is gone", 1, () -> x.depthOf(0));
        Check.due("none is left", 0, () -> x.dropLast(0));
        Check.due("all are gone", 0, () -> x.needed(0, 0));
        Check.thrown("none any more", IllegalStateException.class, () -> x.dropLast(0));
        Check.due("it can be a part of its former part", 2, () -> x.addPart(1, 0, 1));
    }

    private static void depthOf() {
        Takeoff x = withItems(4);
        x.addResource(0, 2, 0, 1);
        Check.thrown("item 4", IndexOutOfBoundsException.class, () -> x.depthOf(4));
        Check.thrown("item -1", IndexOutOfBoundsException.class, () -> x.depthOf(-1));
        x.addUse(0, 0, 1);
        Check.due("a use is no part", 1, () -> x.depthOf(0));
        x.addPart(1, 0, 1);
        x.addPart(2, 1, 1);
        Check.due("a part", 2, () -> x.depthOf(1));
        Check.due("a part of a part", 3, () -> x.depthOf(2));
        x.addPart(2, 3, 1);
        Check.due("a lower part behind", 3, () -> x.depthOf(2));
        x.addVariant();
        x.replaceItem(0, 1, 3);
        x.replaceItem(0, 2, 0);
        Check.due("off", 3, () -> x.depthOf(2));
        x.turn(0, true);
        Check.due("on, a part replaced", 2, () -> x.depthOf(2));
        Check.due("on, the replaced item itself", 2, () -> x.depthOf(1));
    }

    private static void unitCost() {
        Takeoff x = withItems(3);
        x.addResource(0, 10, 50, 99);
        x.addResource(1, 3, 0, 1);
        x.addResource(0, 100, 0, 1);
        Check.thrown("item 3", IndexOutOfBoundsException.class, () -> x.unitCost(3));
        Check.thrown("item -1", IndexOutOfBoundsException.class, () -> x.unitCost(-1));
        Check.due("nothing", 0, () -> x.unitCost(0));
        x.addCrew();
        x.addMember(0, 1, 2);
        x.addUse(0, 0, 7);
        x.addWork(0, 0, 5);
        x.addPart(1, 0, 4);
        x.addUse(1, 1, 1);
        x.addMarkup(50, 7);
        Check.due("without waste, packs and mark-ups", 100, () -> x.unitCost(0));
        Check.due("with its parts", 403, () -> x.unitCost(1));
        x.addVariant();
        x.replaceItem(0, 0, 2);
        x.replaceItem(0, 1, 2);
        x.replaceResource(0, 0, 2);
        x.turn(0, true);
        Check.due("the item itself, its resources as they are meant", 730, () -> x.unitCost(0));
        Check.due("the item itself, its parts as they are meant", 3, () -> x.unitCost(1));
    }

    private static void needed() {
        Takeoff x = withItems(2);
        for (int k = 0; k < 3; k++) {
            x.addResource(1, 1, 0, 1);
        }
        Check.thrown("item 2", IndexOutOfBoundsException.class, () -> x.needed(2, 0));
        Check.thrown("item -1", IndexOutOfBoundsException.class, () -> x.needed(-1, 0));
        Check.thrown("resource 3", IndexOutOfBoundsException.class, () -> x.needed(0, 3));
        Check.thrown("resource -1", IndexOutOfBoundsException.class, () -> x.needed(0, -1));
        x.addCrew();
        x.addMember(0, 0, 2);
        x.addMember(0, 1, 3);
        x.addWork(0, 0, 10);
        x.addUse(0, 0, 5);
        x.addPart(1, 0, 2);
        Check.due("by use and work", 25, () -> x.needed(0, 0));
        Check.due("by work", 30, () -> x.needed(0, 1));
        Check.due("by a part", 50, () -> x.needed(1, 0));
        x.addVariant();
        x.addVariant();
        x.replaceResource(0, 0, 1);
        x.replaceResource(1, 0, 2);
        x.replaceResource(1, 1, 2);
        x.turn(0, true);
        Check.due("replaced, asked for itself", 0, () -> x.needed(0, 0));
        Check.due("two members of which the same is meant", 55, () -> x.needed(0, 1));
        x.turn(1, true);
        Check.due("the lowest variant counts, and is not replaced once more", 25, () -> x.needed(0, 1));
        Check.due("the other counts where it alone replaces", 30, () -> x.needed(0, 2));
        x.turn(0, false);
        Check.due("the other alone", 110, () -> x.needed(1, 2));
    }
}
