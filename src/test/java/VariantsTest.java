/** Promises 20 to 25: variants. */
public final class VariantsTest {
    public static void main(String[] args) {
        addVariant();
        replaceItem();
        replaceItemWrong();
        replaceResource();
        replaceResourceWrong();
        turn();
        turnThatDoesNotFit();
        difference();
        differenceThatDoesNotFit();
        cheapestVariants();
        cheapestOfEqualSets();
        cheapestOfThoseThatFit();
        Check.end();
    }

    /** Items 0, 1, 2 of resources 0, 1, 2 with prices 10, 6, 3, and a line with two units of item 0. */
    private static Takeoff threeItems() {
        Takeoff x = new Takeoff();
        int[] prices = {10, 6, 3};
        for (int k = 0; k < 3; k++) {
            x.addResource(Takeoff.MATERIAL, prices[k], 0, 1);
            x.addItem(k);
            x.addUse(k, k, 1);
        }
        x.addLine(0);
        x.addRow(0, 'n', 2, 0, 0, 0);
        return x;
    }

    private static void addVariant() {
        Takeoff x = threeItems();
        for (int k = 0; k < 4; k++) {
            int number = k;
            Check.due("variant " + k, number, () -> x.addVariant());
        }
        Check.thrown("a fifth", IllegalStateException.class, () -> x.addVariant());
        Check.dueFlag("it is off", false, () -> x.turn(3, true));
        Check.due("it replaces nothing", 20, () -> x.total());
        Check.thrown("variant 4", IndexOutOfBoundsException.class, () -> x.turn(4, false));
    }

    private static void replaceItem() {
        Takeoff x = threeItems();
        x.addVariant();
        Check.due("one", 1, () -> x.replaceItem(0, 0, 1));
        Check.due("another", 2, () -> x.replaceItem(0, 1, 2));
        Check.due("in place of the first", 2, () -> x.replaceItem(0, 0, 2));
        Check.due("in place of it again", 2, () -> x.replaceItem(0, 0, 1));
        Check.due("off", 20, () -> x.net());
        x.turn(0, true);
        Check.due("on, replaced once and not once more", 12, () -> x.net());
        x.turn(0, false);
        Check.due("three", 3, () -> x.replaceItem(0, 2, 0));
        Check.due("off again", 20, () -> x.net());
        x.addVariant();
        Check.due("another variant counts for itself", 1, () -> x.replaceItem(1, 0, 2));
        x.turn(1, true);
        Check.due("it alone", 6, () -> x.net());
        x.turn(0, true);
        Check.due("the lowest number that is on", 12, () -> x.net());
    }

    private static void replaceItemWrong() {
        Takeoff x = threeItems();
        x.addVariant();
        Check.thrown("variant 1", IndexOutOfBoundsException.class, () -> x.replaceItem(1, 0, 0));
        Check.thrown("variant -1", IndexOutOfBoundsException.class, () -> x.replaceItem(-1, 0, 1));
        Check.thrown("item 3", IndexOutOfBoundsException.class, () -> x.replaceItem(0, 3, 3));
        Check.thrown("item -1", IndexOutOfBoundsException.class, () -> x.replaceItem(0, -1, 0));
        Check.thrown("other 3", IndexOutOfBoundsException.class, () -> x.replaceItem(0, 0, 3));
        Check.thrown("other -1", IndexOutOfBoundsException.class, () -> x.replaceItem(0, 0, -1));
        Check.thrown("the same", IllegalArgumentException.class, () -> x.replaceItem(0, 1, 1));
        x.turn(0, true);
        Check.thrown("on", IllegalStateException.class, () -> x.replaceItem(0, 0, 1));
        Check.thrown("on, the same", IllegalArgumentException.class, () -> x.replaceItem(0, 1, 1));
        Check.thrown("on, no item", IndexOutOfBoundsException.class, () -> x.replaceItem(0, 0, 3));
        Check.due("nothing is kept", 20, () -> x.net());
        x.addVariant();
        Check.due("another that is off", 1, () -> x.replaceItem(1, 0, 1));
    }

    private static void replaceResource() {
        Takeoff x = threeItems();
        x.addResource(Takeoff.LABOUR, 7, 0, 1);
        x.addResource(Takeoff.LABOUR, 5, 0, 1);
        x.addCrew();
        x.addMember(0, 3, 2);
        x.addWork(0, 0, 1);
        x.addVariant();
        Check.due("before", 48, () -> x.net());
        Check.due("one", 1, () -> x.replaceResource(0, 0, 1));
        Check.due("in place of it", 1, () -> x.replaceResource(0, 0, 2));
        Check.due("another", 2, () -> x.replaceResource(0, 2, 1));
        Check.due("one in a crew", 3, () -> x.replaceResource(0, 3, 4));
        Check.due("items are counted for themselves", 1, () -> x.replaceItem(0, 1, 2));
        Check.due("off", 48, () -> x.net());
        x.turn(0, true);
        Check.due("on, in uses and crews, not once more", 26, () -> x.net());
        Check.due("the amount of the replaced one", 0, () -> x.amount(0));
        Check.due("the amount of the other", 2, () -> x.amount(2));
        Check.due("the amount of the other LABOUR", 4, () -> x.amount(4));
    }

    private static void replaceResourceWrong() {
        Takeoff x = threeItems();
        x.addResource(Takeoff.LABOUR, 7, 0, 1);
        x.addResource(Takeoff.PLANT, 7, 0, 1);
        x.addVariant();
        Check.thrown("variant 1", IndexOutOfBoundsException.class, () -> x.replaceResource(1, 0, 0));
        Check.thrown("variant -1", IndexOutOfBoundsException.class, () -> x.replaceResource(-1, 0, 1));
        Check.thrown("resource 5", IndexOutOfBoundsException.class, () -> x.replaceResource(0, 5, 5));
        Check.thrown("resource -1", IndexOutOfBoundsException.class, () -> x.replaceResource(0, -1, 0));
        Check.thrown("other 5", IndexOutOfBoundsException.class, () -> x.replaceResource(0, 0, 5));
        Check.thrown("other -1", IndexOutOfBoundsException.class, () -> x.replaceResource(0, 0, -1));
        Check.thrown("the same", IllegalArgumentException.class, () -> x.replaceResource(0, 1, 1));
        Check.thrown("MATERIAL by LABOUR", IllegalArgumentException.class, () -> x.replaceResource(0, 0, 3));
        Check.thrown("LABOUR by PLANT", IllegalArgumentException.class, () -> x.replaceResource(0, 3, 4));
        x.turn(0, true);
        Check.thrown("on", IllegalStateException.class, () -> x.replaceResource(0, 0, 1));
        Check.thrown("on, the same", IllegalArgumentException.class, () -> x.replaceResource(0, 1, 1));
        Check.thrown("on, other kind", IllegalArgumentException.class, () -> x.replaceResource(0, 0, 4));
        Check.due("nothing is kept", 20, () -> x.net());
    }

    private static void turn() {
        Takeoff x = threeItems();
        Check.thrown("no variant", IndexOutOfBoundsException.class, () -> x.turn(0, true));
        x.addVariant();
        x.replaceItem(0, 0, 2);
        Check.thrown("variant -1", IndexOutOfBoundsException.class, () -> x.turn(-1, true));
        Check.dueFlag("off already", false, () -> x.turn(0, false));
        Check.due("off", 20, () -> x.net());
        Check.dueFlag("on", false, () -> x.turn(0, true));
        Check.due("on", 6, () -> x.net());
        Check.dueFlag("on already", true, () -> x.turn(0, true));
        Check.due("still on", 6, () -> x.net());
        Check.dueFlag("off", true, () -> x.turn(0, false));
        Check.due("off", 20, () -> x.net());
    }

    private static void turnThatDoesNotFit() {
        Takeoff x = threeItems();
        x.addItem(0);
        x.addPart(0, 1, 1);
        x.addPart(2, 0, 1);
        x.addVariant();
        x.replaceItem(0, 1, 0);
        Check.thrown("an item would need itself", UnsupportedOperationException.class, () -> x.turn(0, true));
        Check.dueFlag("it is still off", false, () -> x.turn(0, false));
        Check.due("and the net cost is as before", 32, () -> x.net());
        x.replaceItem(0, 1, 2);
        Check.thrown("two would need each other", UnsupportedOperationException.class, () -> x.turn(0, true));
        x.replaceItem(0, 1, 3);
        Check.dueFlag("it fits", false, () -> x.turn(0, true));
        Check.due("the part replaced", 20, () -> x.net());
        Check.due("the replaced item becomes deeper", 2, () -> x.addPart(1, 3, 1));
        Check.thrown("off, a depth would be 4", UnsupportedOperationException.class, () -> x.turn(0, false));
        Check.dueFlag("it is still on", true, () -> x.turn(0, true));
        Check.due("as before", 20, () -> x.net());
        x.dropLast(2);
        Check.dueFlag("without the top it fits", true, () -> x.turn(0, false));
        Check.due("depth 3", 3, () -> x.depthOf(0));
    }

    private static void difference() {
        Takeoff x = threeItems();
        Check.thrown("no variant", IndexOutOfBoundsException.class, () -> x.difference(0));
        x.addVariant();
        x.addVariant();
        x.replaceItem(0, 0, 1);
        x.replaceItem(1, 0, 2);
        Check.thrown("variant 2", IndexOutOfBoundsException.class, () -> x.difference(2));
        Check.thrown("variant -1", IndexOutOfBoundsException.class, () -> x.difference(-1));
        Check.due("on", -8, () -> x.difference(0));
        Check.due("the other on", -14, () -> x.difference(1));
        x.turn(1, true);
        Check.due("on before the other", 6, () -> x.difference(0));
        Check.due("off", 14, () -> x.difference(1));
        x.turn(0, true);
        Check.due("off behind the other", 0, () -> x.difference(1));
        Check.due("nothing is turned", 12, () -> x.total());
        x.turn(1, false);
        x.addMarkup(50, 1);
        Check.due("with mark-ups", 12, () -> x.difference(0));
        Takeoff y = threeItems();
        y.addResource(Takeoff.MATERIAL, 6, 50, 9);
        y.addVariant();
        y.replaceResource(0, 0, 3);
        Check.due("with waste and packs", 34, () -> y.difference(0));
    }

    private static void differenceThatDoesNotFit() {
        Takeoff x = threeItems();
        x.addPart(0, 1, 1);
        x.addVariant();
        x.replaceItem(0, 1, 0);
        Check.thrown("on, an item would need itself", UnsupportedOperationException.class, () -> x.difference(0));
        Check.due("as before", 32, () -> x.total());
        x.replaceItem(0, 1, 2);
        x.turn(0, true);
        x.addItem(0);
        x.addPart(1, 3, 1);
        x.addPart(1, 1, 1);
        Check.thrown("off, an item would need itself", UnsupportedOperationException.class, () -> x.difference(0));
        x.dropLast(1);
        Check.due("off, it fits", 6, () -> x.difference(0));
        Check.due("as before", 26, () -> x.total());
    }

    /** Four lines, each with a resource of its own, and four variants, each for one of these. */
    private static Takeoff fourChoices() {
        Takeoff x = new Takeoff();
        for (int k = 0; k < 4; k++) {
            x.addResource(Takeoff.MATERIAL, 9, 0, 1);
        }
        x.addResource(Takeoff.MATERIAL, 4, 0, 1);
        for (int k = 0; k < 4; k++) {
            x.addItem(0);
            x.addUse(k, k, 1);
            x.addLine(k);
            x.addRow(k, 'n', 1, 0, 0, 0);
            x.addVariant();
            x.replaceResource(k, k, 4);
        }
        return x;
    }

    private static void cheapestVariants() {
        Takeoff empty = threeItems();
        Check.due("no variants", 0, () -> empty.cheapestVariants());
        Takeoff x = fourChoices();
        Check.due("all", 15, () -> x.cheapestVariants());
        x.setPrice(3, 3);
        Check.due("all but the last", 7, () -> x.cheapestVariants());
        x.setPrice(1, 0);
        Check.due("two", 5, () -> x.cheapestVariants());
        x.turn(3, true);
        x.turn(0, true);
        Check.due("whatever is on", 5, () -> x.cheapestVariants());
        Check.due("nothing is turned", 17, () -> x.total());
        Check.dueFlag("variant 3", true, () -> x.turn(3, true));
        x.setPrice(4, 9999);
        Check.due("none", 0, () -> x.cheapestVariants());
        Takeoff y = threeItems();
        y.addResource(Takeoff.MATERIAL, 6, 0, 99);
        y.addResource(Takeoff.LABOUR, 9, 0, 1);
        y.addItem(0);
        y.addUse(3, 4, 1);
        y.addVariant();
        y.replaceResource(0, 0, 3);
        Check.due("the extra cost counts", 0, () -> y.cheapestVariants());
        y.addVariant();
        y.replaceItem(1, 0, 3);
        y.addMarkup(50, 2);
        Check.due("mark-ups count", 0, () -> y.cheapestVariants());
        y.setPercent(0, 0);
        Check.due("a mark-up of 0", 2, () -> y.cheapestVariants());
    }

    private static void cheapestOfEqualSets() {
        Takeoff x = fourChoices();
        x.setPrice(0, 4);
        Check.due("without one that changes nothing", 14, () -> x.cheapestVariants());
        x.turn(0, true);
        Check.due("though it is on", 14, () -> x.cheapestVariants());
        Takeoff y = threeItems();
        for (int k = 0; k < 4; k++) {
            y.addVariant();
        }
        y.replaceResource(1, 0, 2);
        y.replaceItem(3, 0, 2);
        y.turn(3, true);
        Check.due("the lowest number", 2, () -> y.cheapestVariants());
        Takeoff z = threeItems();
        z.addVariant();
        z.addVariant();
        z.replaceItem(0, 0, 1);
        z.setPrice(1, 11);
        z.turn(1, true);
        Check.due("none rather than the equal one that is on", 0, () -> z.cheapestVariants());
    }

    private static void cheapestOfThoseThatFit() {
        Takeoff x = threeItems();
        x.addPart(0, 1, 1);
        x.addVariant();
        x.addVariant();
        x.replaceItem(0, 1, 0);
        x.replaceResource(1, 0, 2);
        Check.due("not with an item that needs itself", 2, () -> x.cheapestVariants());
        Check.due("as before", 32, () -> x.total());
        Takeoff y = threeItems();
        y.addVariant();
        y.replaceItem(0, 0, 1);
        y.turn(0, true);
        y.addPart(0, 0, 9);
        Check.due("the empty set does not fit", 1, () -> y.cheapestVariants());
        y.addVariant();
        y.replaceItem(1, 0, 2);
        Check.due("another that fits", 2, () -> y.cheapestVariants());
        Check.due("as before", 12, () -> y.total());
    }
}
