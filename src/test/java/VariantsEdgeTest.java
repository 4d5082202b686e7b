import java.util.function.Supplier;

/** Boundary cases of promises 20 to 25: variants. Each comment quotes the sentence that is tested. */
public final class VariantsEdgeTest {
    public static void main(String[] args) {
        addVariantReplacesNothing();
        addVariantFour();
        replaceItemNumbers();
        replaceItemSame();
        replaceItemOn();
        replaceItemCount();
        replaceItemInPlace();
        replaceItemOrder();
        replaceResourceNumbers();
        replaceResourceSame();
        replaceResourceKinds();
        replaceResourceOn();
        replaceResourceCount();
        replaceResourceInPlace();
        replaceResourceOrder();
        turnVariant();
        turnAlready();
        turnNeedsItself();
        turnTooDeep();
        turnOnlyWhatIsMeant();
        turnWhereEmptySetDoesNotFit();
        differenceVariant();
        differenceOfNothing();
        differenceSigns();
        differenceOfEach();
        differenceNeedsItself();
        differenceTooDeep();
        differenceBeyondInt();
        cheapestOfNone();
        cheapestOfFour();
        cheapestLowestNumber();
        cheapestOfThoseThatFit();
        cheapestTotal();
        cheapestBeyondInt();
        Check.end();
    }

    /** Items 0 to 5, item k of one unit of the MATERIAL k for 10 + k cents, lines of 1 unit for the first three. */
    private static Takeoff six(int variants) {
        Takeoff x = new Takeoff();
        for (int k = 0; k < 6; k++) {
            x.addResource(Takeoff.MATERIAL, 10 + k, 0, 1);
            x.addItem(k);
            x.addUse(k, k, 1);
        }
        for (int k = 0; k < 3; k++) {
            x.addLine(k);
            x.addRow(k, 'n', 1, 0, 0, 0);
        }
        for (int k = 0; k < variants; k++) {
            x.addVariant();
        }
        return x;
    }

    /** Twelve items and twelve resources of one kind, and four variants that replace nothing. */
    private static Takeoff twelve() {
        Takeoff x = new Takeoff();
        for (int k = 0; k < 12; k++) {
            x.addResource(Takeoff.LABOUR, 1, 0, 1);
            x.addItem(0);
        }
        for (int k = 0; k < 4; k++) {
            x.addVariant();
        }
        return x;
    }

    /** Six items, and variant 0 that replaces one by another; it may be turned on. */
    private static Takeoff swap(int item, int other, boolean isOn) {
        Takeoff x = six(1);
        x.replaceItem(0, item, other);
        x.turn(0, isOn);
        return x;
    }

    // ---- promise 20

    /** "Adds a variant that replaces nothing." "a variant is on or off, and off at first" */
    private static void addVariantReplacesNothing() {
        Edge.answers("20 off and replacing nothing", "0 false 33 1 1", () -> six(0), x -> x.addVariant(),
            x -> x.turn(0, false), x -> x.net(), x -> x.replaceItem(0, 0, 1), x -> x.replaceResource(0, 0, 1));
        Edge.answers("20 replacing nothing when it is on", "0 false 33 true", () -> six(0), x -> x.addVariant(),
            x -> x.turn(0, true), x -> x.net(), x -> x.turn(0, true));
    }

    /** "At most 4 variants exist, numbered from 0" "Throws IllegalStateException if there are 4 variants" */
    private static void addVariantFour() {
        Edge.answers("20 four variants", "0 1 2 3 throws IllegalStateException", () -> six(0), x -> x.addVariant(),
            x -> x.addVariant(), x -> x.addVariant(), x -> x.addVariant(), x -> x.addVariant());
        Edge.refused("20 a fifth", Edge.STATE, () -> six(4), x -> x.addVariant());
        Edge.refused("20 a fifth where all is full", Edge.STATE, Houses::full, x -> x.addVariant());
    }

    // ---- promise 21

    /** "Throws IndexOutOfBoundsException if there is no such variant or no such item, for either" */
    private static void replaceItemNumbers() {
        Edge.numbers("21 no variants", 0, () -> six(0), (x, variant) -> x.replaceItem(variant, 0, 1));
        Edge.numbers("21 variant", 2, () -> six(2), (x, variant) -> x.replaceItem(variant, 0, 1));
        Edge.numbers("21 variant of 4", 4, () -> six(4), (x, variant) -> x.replaceItem(variant, 0, 1));
        Edge.numbers("21 no items", 0, VariantsEdgeTest::onlyVariant, (x, item) -> x.replaceItem(0, item, item));
        Edge.numbers("21 item", 6, () -> six(1), (x, item) -> x.replaceItem(0, item, 3));
        Edge.numbers("21 other", 6, () -> six(1), (x, other) -> x.replaceItem(0, 3, other));
        Edge.numbers("21 item of 12", 12, VariantsEdgeTest::twelve, (x, item) -> x.replaceItem(3, item, 5));
        Edge.numbers("21 other of 12", 12, VariantsEdgeTest::twelve, (x, other) -> x.replaceItem(3, 5, other));
    }

    private static Takeoff onlyVariant() {
        Takeoff x = new Takeoff();
        x.addVariant();
        return x;
    }

    /** "Throws IllegalArgumentException if both items are the same" */
    private static void replaceItemSame() {
        Edge.refused("21 the first by itself", Edge.ARGUMENT, () -> six(1), x -> x.replaceItem(0, 0, 0));
        Edge.refused("21 the last by itself", Edge.ARGUMENT, () -> six(1), x -> x.replaceItem(0, 5, 5));
        Edge.refused("21 one that is replaced by itself", Edge.ARGUMENT, () -> swap(2, 4, false),
            x -> x.replaceItem(0, 2, 2));
        Edge.answer("21 one by the next", 1, () -> six(1), x -> x.replaceItem(0, 5, 4));
    }

    /** "Throws IllegalStateException if the variant is on" */
    private static void replaceItemOn() {
        Edge.refused("21 on", Edge.STATE, () -> swap(2, 4, true), x -> x.replaceItem(0, 2, 5));
        Edge.refused("21 on, as it is already", Edge.STATE, () -> swap(2, 4, true), x -> x.replaceItem(0, 2, 4));
        Edge.refused("21 the last of four is on", Edge.STATE, Houses::full, x -> x.replaceItem(3, 0, 1));
        Edge.answers("21 off again", "true 1", () -> swap(2, 4, true), x -> x.turn(0, false),
            x -> x.replaceItem(0, 2, 5));
        Edge.answers("21 another variant is on", "1 1", () -> swap(2, 4, true), x -> x.addVariant(),
            x -> x.replaceItem(1, 2, 5));
    }

    /** "Returns the number of items that the variant replaces after the call." */
    private static void replaceItemCount() {
        Takeoff x = twelve();
        for (int k = 0; k < 12; k++) {
            int item = k;
            Check.due("21 items replaced " + (k + 1), k + 1, () -> x.replaceItem(1, item, (item + 1) % 12));
        }
        Check.due("21 all twelve, one in place", 12, () -> x.replaceItem(1, 11, 5));
        Check.due("21 the other variants none", 1, () -> x.replaceItem(2, 11, 5));
        Check.due("21 resources are counted for themselves", 1, () -> x.replaceResource(1, 0, 1));
    }

    /** "in place of the item by which it does so" */
    private static void replaceItemInPlace() {
        Edge.answers("21 in place", "1 1 false 34", () -> swap(2, 4, false), x -> x.replaceItem(0, 2, 5),
            x -> x.replaceItem(0, 2, 3), x -> x.turn(0, true), x -> x.net());
    }

    private static void replaceItemOrder() {
        Supplier<Takeoff> on = () -> swap(2, 4, true);
        Edge.refused("21 variant before same", Edge.BOUNDS, on, x -> x.replaceItem(1, 2, 2));
        Edge.refused("21 item before same", Edge.BOUNDS, on, x -> x.replaceItem(0, 6, 6));
        Edge.refused("21 item before on", Edge.BOUNDS, on, x -> x.replaceItem(0, -1, 2));
        Edge.refused("21 other before on", Edge.BOUNDS, on, x -> x.replaceItem(0, 2, 6));
        Edge.refused("21 same before on", Edge.ARGUMENT, on, x -> x.replaceItem(0, 2, 2));
    }

    // ---- promise 22

    /** "Throws IndexOutOfBoundsException if there is no such variant or no such resource, for either" */
    private static void replaceResourceNumbers() {
        Edge.numbers("22 no variants", 0, () -> six(0), (x, variant) -> x.replaceResource(variant, 0, 1));
        Edge.numbers("22 variant", 2, () -> six(2), (x, variant) -> x.replaceResource(variant, 0, 1));
        Edge.numbers("22 variant of 4", 4, () -> six(4), (x, variant) -> x.replaceResource(variant, 0, 1));
        Edge.numbers("22 no resources", 0, VariantsEdgeTest::onlyVariant,
            (x, resource) -> x.replaceResource(0, resource, resource));
        Edge.numbers("22 resource", 6, () -> six(1), (x, resource) -> x.replaceResource(0, resource, 3));
        Edge.numbers("22 other", 6, () -> six(1), (x, other) -> x.replaceResource(0, 3, other));
        Edge.numbers("22 resource of 12", 12, VariantsEdgeTest::twelve, (x, k) -> x.replaceResource(3, k, 5));
        Edge.numbers("22 other of 12", 12, VariantsEdgeTest::twelve, (x, other) -> x.replaceResource(3, 5, other));
    }

    /** "Throws IllegalArgumentException if both resources are the same" */
    private static void replaceResourceSame() {
        Edge.refused("22 the first by itself", Edge.ARGUMENT, () -> six(1), x -> x.replaceResource(0, 0, 0));
        Edge.refused("22 the last by itself", Edge.ARGUMENT, () -> six(1), x -> x.replaceResource(0, 5, 5));
        Edge.refused("22 one that is replaced by itself", Edge.ARGUMENT, () -> cheaper(false),
            x -> x.replaceResource(0, 2, 2));
    }

    /** Six items, and variant 0 that replaces the resource 2 by 0. */
    private static Takeoff cheaper(boolean isOn) {
        Takeoff x = six(1);
        x.replaceResource(0, 2, 0);
        x.turn(0, isOn);
        return x;
    }

    /** Two resources of each kind. */
    private static Takeoff kinds() {
        Takeoff x = new Takeoff();
        for (int k = 0; k < 6; k++) {
            x.addResource(k / 2, k, 0, 1);
        }
        x.addVariant();
        return x;
    }

    /** "or their kinds are different" */
    private static void replaceResourceKinds() {
        for (int k = 0; k < 36; k++) {
            int resource = k / 6;
            int other = k % 6;
            if (resource / 2 != other / 2) {
                Edge.refused("22 kinds of " + resource + " and " + other, Edge.ARGUMENT, VariantsEdgeTest::kinds,
                    x -> x.replaceResource(0, resource, other));
            } else if (resource != other) {
                Edge.answer("22 kinds of " + resource + " and " + other, 1, VariantsEdgeTest::kinds,
                    x -> x.replaceResource(0, resource, other));
            }
        }
    }

    /** "Throws IllegalStateException if the variant is on" */
    private static void replaceResourceOn() {
        Edge.refused("22 on", Edge.STATE, () -> cheaper(true), x -> x.replaceResource(0, 2, 1));
        Edge.refused("22 on, as it is already", Edge.STATE, () -> cheaper(true), x -> x.replaceResource(0, 2, 0));
        Edge.refused("22 the last of four is on", Edge.STATE, Houses::full, x -> x.replaceResource(3, 0, 3));
        Edge.answers("22 off again", "true 1", () -> cheaper(true), x -> x.turn(0, false),
            x -> x.replaceResource(0, 2, 1));
        Edge.answers("22 another variant is on", "1 1", () -> cheaper(true), x -> x.addVariant(),
            x -> x.replaceResource(1, 2, 1));
    }

    /** "Returns the number of resources that the variant replaces after the call." */
    private static void replaceResourceCount() {
        Takeoff x = twelve();
        for (int k = 0; k < 12; k++) {
            int resource = k;
            Check.due("22 replaced " + (k + 1), k + 1, () -> x.replaceResource(1, resource, (resource + 1) % 12));
        }
        Check.due("22 all twelve, one in place", 12, () -> x.replaceResource(1, 11, 5));
        Check.due("22 the other variants none", 1, () -> x.replaceResource(2, 11, 5));
        Check.due("22 items are counted for themselves", 1, () -> x.replaceItem(1, 0, 1));
    }

    /** "in place of the resource by which it does so" */
    private static void replaceResourceInPlace() {
        Edge.answers("22 in place", "1 1 false 36", () -> cheaper(false), x -> x.replaceResource(0, 2, 4),
            x -> x.replaceResource(0, 2, 5), x -> x.turn(0, true), x -> x.net());
    }

    private static void replaceResourceOrder() {
        Supplier<Takeoff> on = VariantsEdgeTest::onWithLabour;
        Edge.refused("22 variant before same", Edge.BOUNDS, on, x -> x.replaceResource(1, 2, 2));
        Edge.refused("22 variant before kinds", Edge.BOUNDS, on, x -> x.replaceResource(-1, 2, 6));
        Edge.refused("22 resource before same", Edge.BOUNDS, on, x -> x.replaceResource(0, 7, 7));
        Edge.refused("22 resource before on", Edge.BOUNDS, on, x -> x.replaceResource(0, -1, 2));
        Edge.refused("22 other before on", Edge.BOUNDS, on, x -> x.replaceResource(0, 2, 7));
        Edge.refused("22 same before on", Edge.ARGUMENT, on, x -> x.replaceResource(0, 2, 2));
        Edge.refused("22 kinds before on", Edge.ARGUMENT, on, x -> x.replaceResource(0, 2, 6));
    }

    private static Takeoff onWithLabour() {
        Takeoff x = cheaper(true);
        x.addResource(Takeoff.LABOUR, 1, 0, 1);
        return x;
    }

    // ---- promise 23

    /** "Throws IndexOutOfBoundsException if there is no such variant" */
    private static void turnVariant() {
        for (boolean isOn : new boolean[] {true, false}) {
            Edge.numbers("23 no variants", 0, () -> six(0), (x, variant) -> x.turn(variant, isOn));
            Edge.numbers("23 variant", 2, Houses::some, (x, variant) -> x.turn(variant, isOn));
            Edge.numbers("23 variant of 4", 4, Houses::full, (x, variant) -> x.turn(variant, isOn));
        }
    }

    /** "If it is so already, nothing happens." "Returns whether it was on before the call." */
    private static void turnAlready() {
        Edge.asks("23 off already", Houses::some, x -> x.turn(1, false));
        Edge.asks("23 on already", Houses::some, x -> x.turn(0, true));
        Edge.answers("23 on and off", "false false true true false", () -> swap(2, 4, false),
            x -> x.turn(0, false), x -> x.turn(0, true), x -> x.turn(0, true), x -> x.turn(0, false),
            x -> x.turn(0, false));
        Edge.answers("23 each for itself", "false false false true false true", () -> six(4), x -> x.turn(0, true),
            x -> x.turn(3, true), x -> x.turn(1, false), x -> x.turn(0, false), x -> x.turn(2, false),
            x -> x.turn(3, true));
    }

    /** Item 0 has the part 1, and variant 0 replaces item 1 by item 0. */
    private static Takeoff ring() {
        Takeoff x = swap(1, 0, false);
        x.addPart(0, 1, 1);
        return x;
    }

    /** Item 0 has the part 1 and item 2 the part 0, and variant 0 replaces item 1 by item 2. */
    private static Takeoff ringOfTwo() {
        Takeoff x = swap(1, 2, false);
        x.addPart(0, 1, 1);
        x.addPart(2, 0, 1);
        return x;
    }

    /** Item 0 has itself as a part, in which item 1 is meant as long as variant 0 is on. */
    private static Takeoff ringIfOff() {
        Takeoff x = swap(0, 1, true);
        x.addPart(0, 0, 1);
        return x;
    }

    /** "Throws UnsupportedOperationException if an item would need itself" */
    private static void turnNeedsItself() {
        Edge.refused("23 on, itself", Edge.UNSUPPORTED, VariantsEdgeTest::ring, x -> x.turn(0, true));
        Edge.refused("23 on, each other", Edge.UNSUPPORTED, VariantsEdgeTest::ringOfTwo, x -> x.turn(0, true));
        Edge.refused("23 off, itself", Edge.UNSUPPORTED, VariantsEdgeTest::ringIfOff, x -> x.turn(0, false));
        Edge.answer("23 on already where off would not fit", true, VariantsEdgeTest::ringIfOff, x -> x.turn(0, true));
        Edge.answer("23 off already where on would not fit", false, VariantsEdgeTest::ring, x -> x.turn(0, false));
    }

    /** Item 0 has the part 1, that has the part 2, which variant 0 replaces by item 3 with some parts below. */
    private static Takeoff chain(int below, boolean isOn) {
        Takeoff x = swap(2, 3, isOn);
        x.addPart(0, 1, 1);
        x.addPart(1, 2, 1);
        if (below > 0) {
            x.addPart(isOn ? 2 : 3, 4, 1);
        }
        return x;
    }

    /** "or a depth would be greater than 3" */
    private static void turnTooDeep() {
        Edge.answers("23 on, depth 3", "false 3", () -> chain(0, false), x -> x.turn(0, true), x -> x.depthOf(0));
        Edge.refused("23 on, depth 4", Edge.UNSUPPORTED, () -> chain(1, false), x -> x.turn(0, true));
        Edge.answers("23 off, depth 3", "true 3", () -> chain(0, true), x -> x.turn(0, false), x -> x.depthOf(0));
        Edge.refused("23 off, depth 4", Edge.UNSUPPORTED, () -> chain(1, true), x -> x.turn(0, false));
        Edge.answers("23 on, once the part is dropped", "throws UnsupportedOperationException 1 false",
            () -> chain(1, false), x -> x.turn(0, true), x -> x.dropLast(3), x -> x.turn(0, true));
    }

    /** Variant 1 replaces item 1 by item 0, of which it is a part; variant 0 replaces it by item 2. */
    private static Takeoff hidden() {
        Takeoff x = six(2);
        x.addPart(0, 1, 1);
        x.replaceItem(0, 1, 2);
        x.replaceItem(1, 1, 0);
        x.turn(0, true);
        return x;
    }

    /** "the one by which the variant with the lowest number that is on and replaces it does so" */
    private static void turnOnlyWhatIsMeant() {
        Edge.answers("23 what another variant hides fits", "false true", VariantsEdgeTest::hidden,
            x -> x.turn(1, true), x -> x.turn(1, false));
        Edge.refused("23 what it has hidden does not", Edge.UNSUPPORTED, () -> turnedOn(hidden()),
            x -> x.turn(0, false));
    }

    private static Takeoff turnedOn(Takeoff x) {
        x.turn(1, true);
        return x;
    }

    /** The set that is on after the call counts alone, whether the empty set fits or not. */
    private static void turnWhereEmptySetDoesNotFit() {
        Supplier<Takeoff> make = () -> {
            Takeoff x = ringIfOff();
            x.addVariant();
            x.replaceItem(1, 5, 4);
            return x;
        };
        Edge.answers("23 another one, on and off", "false true 2 -1", make, x -> x.turn(1, true), x -> x.turn(1, false),
            x -> x.replaceItem(1, 2, 1), x -> x.difference(1));
    }

    // ---- promise 24

    /** "Throws IndexOutOfBoundsException if there is no such variant" */
    private static void differenceVariant() {
        Edge.numbers("24 no variants", 0, () -> six(0), (x, variant) -> x.difference(variant));
        Edge.numbers("24 variant", 2, Houses::some, (x, variant) -> x.difference(variant));
        Edge.numbers("24 variant of 4", 4, Houses::full, (x, variant) -> x.difference(variant));
        Edge.asks("24 asks only, on", Houses::some, x -> x.difference(0));
        Edge.asks("24 asks only, off", Houses::some, x -> x.difference(1));
    }

    private static void differenceOfNothing() {
        Edge.answer("24 nothing replaced", 0, () -> six(1), x -> x.difference(0));
        Edge.answer("24 nothing to replace it in", 0, () -> swap(4, 5, false), x -> x.difference(0));
        Edge.answer("24 hidden by another", 0, VariantsEdgeTest::hidden, x -> x.difference(1));
    }

    /** "less than 0 if the total would be less" */
    private static void differenceSigns() {
        Edge.answers("24 greater by 1", "1 false -1", () -> swap(2, 3, false), x -> x.difference(0),
            x -> x.turn(0, true), x -> x.difference(0));
        Edge.answers("24 less by 1", "-1 false 1", () -> swap(2, 1, false), x -> x.difference(0),
            x -> x.turn(0, true), x -> x.difference(0));
        Edge.answer("24 with mark-ups", 34 + 17, VariantsEdgeTest::dearer, x -> x.difference(0));
    }

    private static void differenceOfEach() {
        Edge.answers("24 each of four", "-1 -20 3 40", () -> choices(1, 20, -3, -40), x -> x.difference(0),
            x -> x.difference(1), x -> x.difference(2), x -> x.difference(3));
        Edge.answers("24 each of four, two of them on", "false false -1 20 3 -40", () -> choices(1, 20, -3, -40),
            x -> x.turn(1, true), x -> x.turn(3, true), x -> x.difference(0), x -> x.difference(1),
            x -> x.difference(2), x -> x.difference(3));
    }

    /** Costs of 33 cents and 16 of a mark-up, or with item 2 replaced by one for 34 more, 67 and 33. */
    private static Takeoff dearer() {
        Takeoff x = swap(2, 3, false);
        x.setPrice(3, 46);
        x.addMarkup(50, 1);
        return x;
    }

    /** "Throws UnsupportedOperationException if an item would need itself" */
    private static void differenceNeedsItself() {
        Edge.refused("24 on, itself", Edge.UNSUPPORTED, VariantsEdgeTest::ring, x -> x.difference(0));
        Edge.refused("24 on, each other", Edge.UNSUPPORTED, VariantsEdgeTest::ringOfTwo, x -> x.difference(0));
        Edge.refused("24 off, itself", Edge.UNSUPPORTED, VariantsEdgeTest::ringIfOff, x -> x.difference(0));
        Edge.refused("24 off, what it has hidden", Edge.UNSUPPORTED, () -> turnedOn(hidden()), x -> x.difference(0));
    }

    /** "or a depth would be greater than 3" */
    private static void differenceTooDeep() {
        Edge.answer("24 on, depth 3", 3, () -> chain(0, false), x -> x.difference(0));
        Edge.refused("24 on, depth 4", Edge.UNSUPPORTED, () -> chain(1, false), x -> x.difference(0));
        Edge.answer("24 off, depth 3", -3, () -> chain(0, true), x -> x.difference(0));
        Edge.refused("24 off, depth 4", Edge.UNSUPPORTED, () -> chain(1, true), x -> x.difference(0));
    }

    /** 10000 units of 99 MATERIALs for 9999 cents, or by variant 0 of those for 1 cent. */
    private static Takeoff great() {
        Takeoff x = new Takeoff();
        x.addResource(Takeoff.MATERIAL, 9999, 0, 1);
        x.addResource(Takeoff.MATERIAL, 1, 0, 1);
        x.addItem(0);
        x.addUse(0, 0, 99);
        x.addLine(0);
        Houses.measure(x, 0, 10000);
        x.addVariant();
        x.replaceResource(0, 0, 1);
        return x;
    }

    private static void differenceBeyondInt() {
        long difference = 990000L * 9998;
        Edge.answers("24 beyond an int", -difference + " false " + difference, VariantsEdgeTest::great,
            x -> x.difference(0), x -> x.turn(0, true), x -> x.difference(0));
    }

    // ---- promise 25

    private static void cheapestOfNone() {
        Edge.answer("25 nothing at all", 0, Takeoff::new, x -> x.cheapestVariants());
        Edge.answer("25 no variants", 0, () -> six(0), x -> x.cheapestVariants());
        Edge.asks("25 asks only", Houses::some, x -> x.cheapestVariants());
        Edge.asks("25 asks only where all is full", Houses::full, x -> x.cheapestVariants());
        Edge.asks("25 asks only where the empty set does not fit", VariantsEdgeTest::ringIfOff,
            x -> x.cheapestVariants());
    }

    /** A line and a variant for each, which puts a resource in place that is so much cheaper or, below 0, dearer. */
    private static Takeoff choices(int... cheaper) {
        Takeoff x = new Takeoff();
        for (int k = 0; k < cheaper.length; k++) {
            x.addResource(Takeoff.MATERIAL, 100, 0, 1);
            x.addResource(Takeoff.MATERIAL, 100 - cheaper[k], 0, 1);
            x.addItem(0);
            x.addUse(k, 2 * k, 1);
            x.addLine(k);
            x.addRow(k, 'n', 1, 0, 0, 0);
            x.addVariant();
            x.replaceResource(k, 2 * k, 2 * k + 1);
        }
        return x;
    }

    /** "as a number in which the bit k is 1 if the variant k belongs to it" */
    private static void cheapestOfFour() {
        Edge.answer("25 none of four", 0, () -> choices(-1, -1, -1, -1), x -> x.cheapestVariants());
        Edge.answer("25 all four", 15, () -> choices(1, 1, 1, 1), x -> x.cheapestVariants());
        Edge.answer("25 the first", 1, () -> choices(1, -1, -1, -1), x -> x.cheapestVariants());
        Edge.answer("25 the last", 8, () -> choices(-1, -1, -1, 1), x -> x.cheapestVariants());
        Edge.answer("25 two", 10, () -> choices(-1, 1, -1, 1), x -> x.cheapestVariants());
        Edge.answer("25 one", 1, () -> choices(1), x -> x.cheapestVariants());
        Edge.answers("25 whatever is on", "false false 10", () -> choices(-1, 1, -1, 1), x -> x.turn(0, true),
            x -> x.turn(3, true), x -> x.cheapestVariants());
    }

    /** "of several sets, the one with the lowest number" */
    private static void cheapestLowestNumber() {
        Edge.answer("25 all sets the same", 0, () -> choices(0, 0, 0, 0), x -> x.cheapestVariants());
        Edge.answer("25 some that change nothing", 2, () -> choices(0, 1, 0, 0), x -> x.cheapestVariants());
        Edge.answers("25 though others are on", "false false 2", () -> choices(0, 1, 0, 0), x -> x.turn(0, true),
            x -> x.turn(2, true), x -> x.cheapestVariants());
        Edge.answer("25 one or the other", 1, VariantsEdgeTest::eitherOne, x -> x.cheapestVariants());
        Edge.answers("25 two with lower numbers before one with a higher", "200 -2 false -1 0 true 3",
            VariantsEdgeTest::twoOrOne, x -> x.total(), x -> x.difference(2), x -> x.turn(0, true),
            x -> x.difference(1), x -> x.difference(0) - 1, x -> x.turn(0, false), x -> x.cheapestVariants());
    }

    /** Variants 0 and 1 are cheaper by 1 each in lines of their own, and variant 2 alone is so by 2. */
    private static Takeoff twoOrOne() {
        Takeoff x = choices(1, 1);
        x.addVariant();
        for (int k = 0; k < 2; k++) {
            x.addResource(Takeoff.MATERIAL, 98 + 2 * k, 0, 1);
            x.addItem(0);
            x.addUse(2 + k, 4 + k, 1);
            x.replaceItem(2, k, 2 + k);
        }
        return x;
    }

    /** Each of two variants replaces item 2 by item 1. */
    private static Takeoff eitherOne() {
        Takeoff x = six(2);
        x.replaceItem(0, 2, 1);
        x.replaceItem(1, 2, 1);
        x.turn(1, true);
        return x;
    }

    /** "among all sets of variants for which no item needs itself and no depth is greater than 3" */
    private static void cheapestOfThoseThatFit() {
        Edge.answer("25 on, an item would need itself", 0, () -> priced(ring(), 1, 9999), x -> x.cheapestVariants());
        Edge.answer("25 on, depth 4", 0, () -> priced(chain(1, false), 2, 9999), x -> x.cheapestVariants());
        Edge.answer("25 on, depth 3", 1, () -> priced(chain(0, false), 2, 9999), x -> x.cheapestVariants());
        Edge.answer("25 off, an item would need itself", 1, () -> priced(ringIfOff(), 1, 9999),
            x -> x.cheapestVariants());
        Edge.answer("25 off, depth 4", 1, () -> priced(chain(1, true), 3, 9999), x -> x.cheapestVariants());
        Edge.answer("25 off, depth 3", 0, () -> priced(chain(0, true), 3, 9999), x -> x.cheapestVariants());
        Edge.answer("25 only some sets", 1, () -> priced(hidden(), 1, 9999), x -> x.cheapestVariants());
    }

    private static Takeoff priced(Takeoff x, int resource, int price) {
        x.setPrice(resource, price);
        return x;
    }

    /** "the variants that give the least total": with the extra cost and the mark-ups */
    private static void cheapestTotal() {
        Edge.answers("25 by the extra cost", "0 1", () -> choices(1), x -> {
            x.addResource(Takeoff.MATERIAL, 99, 0, 2);
            x.replaceResource(0, 0, 2);
            return x.cheapestVariants();
        }, x -> x.replaceResource(0, 0, 1) * x.cheapestVariants());
        Edge.answers("25 by a mark-up", "1 0 0", VariantsEdgeTest::labourInstead, x -> x.cheapestVariants(),
            x -> x.addMarkup(50, 2), x -> x.cheapestVariants());
    }

    /** A MATERIAL for 100 cents, or by variant 0 a LABOUR for 90. */
    private static Takeoff labourInstead() {
        Takeoff x = choices(0);
        x.addResource(Takeoff.LABOUR, 90, 0, 1);
        x.addItem(0);
        x.addUse(1, 2, 1);
        x.replaceItem(0, 0, 1);
        return x;
    }

    /** Variant 0 for 1 cent each; without it the total is 2 to the power of 32, which is 0 as an int. */
    private static void cheapestBeyondInt() {
        Supplier<Takeoff> make = () -> {
            Takeoff x = new Takeoff();
            x.addResource(Takeoff.MATERIAL, 8192, 0, 1);
            x.addResource(Takeoff.MATERIAL, 1, 0, 1);
            x.addItem(0);
            x.addUse(0, 0, 64);
            x.addLine(0);
            Houses.measure(x, 0, 8192);
            x.addVariant();
            x.replaceResource(0, 0, 1);
            return x;
        };
        Edge.answers("25 beyond an int", "4294967296 1", make, x -> x.total(), x -> x.cheapestVariants());
    }
}
