/** Boundary cases of promises 2 to 5: resources and crews. Each comment quotes the sentence that is tested. */
public final class ResourcesEdgeTest {
    public static void main(String[] args) {
        addResourceKind();
        addResourcePrice();
        addResourceWaste();
        addResourcePack();
        addResourceTwelve();
        addResourceOrder();
        setPriceResource();
        setPricePrice();
        setPriceBefore();
        setPriceOrder();
        addCrewWithoutMembers();
        addCrewFour();
        addMemberCrew();
        addMemberResource();
        addMemberNumber();
        addMemberMaterial();
        addMemberTwice();
        addMemberThree();
        addMemberOrder();
        Check.end();
    }

    /** A resource, an item that uses it once, and a line of 100 units of the item. */
    private static Takeoff hundredOf(int kind, int price, int waste, int pack) {
        Takeoff x = new Takeoff();
        x.addResource(kind, price, waste, pack);
        x.addItem(0);
        x.addUse(0, 0, 1);
        x.addLine(0);
        Houses.measure(x, 0, 100);
        return x;
    }

    // ---- promise 2

    /** "kind: MATERIAL, LABOUR or PLANT" */
    private static void addResourceKind() {
        Edge.range("2 kind", 0, 2, Edge.ARGUMENT, Houses::some, (x, kind) -> x.addResource(kind, 1, 0, 1));
        for (int k = 0; k < 3; k++) {
            int kind = k;
            Edge.answers("2 kind " + k + " is kept", k == 0 ? "100 0 0" : k == 1 ? "0 100 0" : "0 0 100",
                () -> hundredOf(kind, 1, 0, 1), x -> x.costOfKind(Takeoff.MATERIAL),
                x -> x.costOfKind(Takeoff.LABOUR), x -> x.costOfKind(Takeoff.PLANT));
        }
    }

    /** "price: the price of one unit in cents, 0 to 9999" */
    private static void addResourcePrice() {
        Edge.range("2 price", 0, 9999, Edge.ARGUMENT, Houses::some, (x, price) -> x.addResource(0, price, 0, 1));
        Edge.answer("2 price 0 is kept", 0, () -> hundredOf(0, 0, 0, 1), x -> x.unitCost(0));
        Edge.answer("2 price 9999 is kept", 9999, () -> hundredOf(0, 9999, 0, 1), x -> x.unitCost(0));
    }

    /** "waste: the waste in percent, 0 to 50" */
    private static void addResourceWaste() {
        Edge.range("2 waste", 0, 50, Edge.ARGUMENT, Houses::some, (x, waste) -> x.addResource(0, 1, waste, 1));
        Edge.answer("2 waste 0 is kept", 100, () -> hundredOf(0, 1, 0, 1), x -> x.packs(0));
        Edge.answer("2 waste 50 is kept", 150, () -> hundredOf(0, 1, 50, 1), x -> x.packs(0));
    }

    /** "pack: the pack size, 1 to 99" */
    private static void addResourcePack() {
        Edge.range("2 pack", 1, 99, Edge.ARGUMENT, Houses::some, (x, pack) -> x.addResource(0, 1, 0, pack));
        Edge.answer("2 pack 1 is kept", 100, () -> hundredOf(0, 1, 0, 1), x -> x.packs(0));
        Edge.answer("2 pack 99 is kept", 98, () -> hundredOf(0, 1, 0, 99), x -> x.extra());
    }

    private static Takeoff withResources(int count) {
        Takeoff x = new Takeoff();
        for (int k = 0; k < count; k++) {
            x.addResource(k % 3, k, 0, 1);
        }
        return x;
    }

    /** "At most 12 resources exist, numbered from 0." "Throws IllegalStateException if there are 12 resources" */
    private static void addResourceTwelve() {
        Edge.answer("2 the first of all", 0, Takeoff::new, x -> x.addResource(0, 1, 0, 1));
        Edge.answer("2 the 12th", 11, () -> withResources(11), x -> x.addResource(0, 1, 0, 1));
        Edge.refused("2 a 13th", Edge.STATE, () -> withResources(12), x -> x.addResource(0, 1, 0, 1));
        Edge.refused("2 a 13th where all is full", Edge.STATE, Houses::full, x -> x.addResource(2, 9999, 50, 99));
        Edge.answers("2 a refused one takes no number", "throws IllegalArgumentException 5", Houses::some,
            x -> x.addResource(0, 1, 0, 0), x -> x.addResource(0, 1, 0, 1));
    }

    /** "If several exceptions apply, the exception that is listed first is thrown." */
    private static void addResourceOrder() {
        int[][] wrong = {{3, 1, 0, 1}, {-1, 1, 0, 1}, {0, -1, 0, 1}, {0, 10000, 0, 1},
            {0, 1, -1, 1}, {0, 1, 51, 1}, {0, 1, 0, 0}, {0, 1, 0, 100}, {3, -1, 51, 0}};
        for (int[] a : wrong) {
            Edge.refused("2 out of range before full " + java.util.Arrays.toString(a), Edge.ARGUMENT,
                () -> withResources(12), x -> x.addResource(a[0], a[1], a[2], a[3]));
        }
    }

    // ---- promise 3

    /** "Throws IndexOutOfBoundsException if there is no such resource" */
    private static void setPriceResource() {
        Edge.numbers("3 no resources", 0, Takeoff::new, (x, resource) -> x.setPrice(resource, 1));
        Edge.numbers("3 resource", 5, Houses::some, (x, resource) -> x.setPrice(resource, 1));
        Edge.numbers("3 resource of 12", 12, Houses::full, (x, resource) -> x.setPrice(resource, 1));
    }

    /** "price: the price in cents, 0 to 9999" */
    private static void setPricePrice() {
        Edge.range("3 price", 0, 9999, Edge.ARGUMENT, Houses::some, (x, price) -> x.setPrice(3, price));
        Edge.answers("3 price 0 counts", "20 0", () -> hundredOf(0, 20, 0, 1), x -> x.setPrice(0, 0), x -> x.net());
        Edge.answers("3 price 9999 counts", "20 999900", () -> hundredOf(0, 20, 0, 1),
            x -> x.setPrice(0, 9999), x -> x.net());
    }

    /** "Returns the price before the call." */
    private static void setPriceBefore() {
        Edge.answers("3 the price before", "13 0 9999 9999 20", Houses::some, x -> x.setPrice(3, 0),
            x -> x.setPrice(3, 9999), x -> x.setPrice(3, 9999), x -> x.setPrice(3, 7), x -> x.setPrice(0, 1));
    }

    private static void setPriceOrder() {
        Edge.refused("3 no resource before the price", Edge.BOUNDS, Houses::some, x -> x.setPrice(5, 10000));
        Edge.refused("3 resource -1 before the price", Edge.BOUNDS, Houses::some, x -> x.setPrice(-1, -1));
    }

    // ---- promise 4

    /** "Adds a crew without members." */
    private static void addCrewWithoutMembers() {
        Edge.answers("4 no members", "0 1 0 1", Houses::bare, x -> x.addCrew(), x -> x.addWork(0, 0, 99),
            x -> x.unitCost(0), x -> x.addMember(0, x.addResource(1, 1, 0, 1), 1));
    }

    /** "At most 4 crews exist, numbered from 0." "Throws IllegalStateException if there are 4 crews" */
    private static void addCrewFour() {
        Edge.answers("4 four crews", "0 1 2 3 throws IllegalStateException", Takeoff::new, x -> x.addCrew(),
            x -> x.addCrew(), x -> x.addCrew(), x -> x.addCrew(), x -> x.addCrew());
        Edge.refused("4 a fifth", Edge.STATE, Houses::full, x -> x.addCrew());
    }

    // ---- promise 5

    /** "Throws IndexOutOfBoundsException if there is no such crew" */
    private static void addMemberCrew() {
        Edge.numbers("5 no crews", 0, Houses::bare, (x, crew) -> x.addMember(crew, 0, 1));
        Edge.numbers("5 crew", 2, () -> withWorker(Houses.some()), (x, crew) -> x.addMember(crew, 5, 1));
        Edge.numbers("5 crew of 4", 4, ResourcesEdgeTest::fourCrews, (x, crew) -> x.addMember(crew, 0, 1));
    }

    private static Takeoff withWorker(Takeoff x) {
        x.addResource(Takeoff.LABOUR, 3, 0, 1);
        return x;
    }

    private static Takeoff fourCrews() {
        Takeoff x = withWorker(new Takeoff());
        for (int k = 0; k < 4; k++) {
            x.addCrew();
        }
        return x;
    }

    /** "Throws IndexOutOfBoundsException if there is .. no such resource" */
    private static void addMemberResource() {
        Edge.numbers("5 no resources", 0, ResourcesEdgeTest::onlyCrew, (x, resource) -> x.addMember(0, resource, 1));
        Edge.numbers("5 resource", 4, () -> workers(4, 0), (x, resource) -> x.addMember(0, resource, 1));
        Edge.numbers("5 resource of 12", 12, () -> workers(12, 0), (x, resource) -> x.addMember(0, resource, 1));
    }

    private static Takeoff onlyCrew() {
        Takeoff x = new Takeoff();
        x.addCrew();
        return x;
    }

    /** LABOURs and PLANTs for 1, 2, 3.. cents, and a crew with the first of them; item 0 is one minute of it. */
    private static Takeoff workers(int count, int members) {
        Takeoff x = new Takeoff();
        for (int k = 0; k < count; k++) {
            x.addResource(k % 2 == 0 ? Takeoff.LABOUR : Takeoff.PLANT, k + 1, 0, 1);
        }
        x.addCrew();
        for (int k = 0; k < members; k++) {
            x.addMember(0, k, 1);
        }
        x.addItem(0);
        x.addWork(0, 0, 1);
        return x;
    }

    /** "number: how many of them, 1 to 9" */
    private static void addMemberNumber() {
        Edge.range("5 number", 1, 9, Edge.ARGUMENT, () -> workers(2, 1), (x, number) -> x.addMember(0, 1, number));
        Edge.answers("5 number 1 counts", "1 1", () -> workers(1, 0), x -> x.addMember(0, 0, 1), x -> x.needed(0, 0));
        Edge.answers("5 number 9 counts", "1 9", () -> workers(1, 0), x -> x.addMember(0, 0, 9), x -> x.needed(0, 0));
    }

    /** "Throws UnsupportedOperationException if the resource is a MATERIAL" */
    private static void addMemberMaterial() {
        Edge.refused("5 a MATERIAL", Edge.UNSUPPORTED, Houses::some, x -> x.addMember(1, 3, 1));
        Edge.answer("5 a LABOUR", 2, Houses::some, x -> x.addMember(1, 1, 1));
        Edge.answer("5 a PLANT", 2, Houses::some, x -> x.addMember(1, 2, 1));
    }

    /** "Throws IllegalStateException if the resource is a member of the crew" */
    private static void addMemberTwice() {
        Edge.refused("5 the first member again", Edge.STATE, () -> workers(4, 2), x -> x.addMember(0, 0, 1));
        Edge.refused("5 the last member again", Edge.STATE, () -> workers(4, 2), x -> x.addMember(0, 1, 5));
        Edge.answers("5 in another crew", "1 1", () -> workers(4, 2), x -> x.addCrew(), x -> x.addMember(1, 0, 1));
        Edge.answer("5 a resource by which a member is replaced is no member", 2, Houses::some,
            x -> x.addMember(1, 1, 1));
    }

    /** "A crew has at most 3 members" "Throws IllegalStateException if .. the crew has 3 members" */
    private static void addMemberThree() {
        Edge.answers("5 three members", "1 2 3 throws IllegalStateException 6", () -> workers(4, 0),
            x -> x.addMember(0, 0, 1), x -> x.addMember(0, 1, 1), x -> x.addMember(0, 2, 1),
            x -> x.addMember(0, 3, 1), x -> x.unitCost(0));
        Edge.refused("5 a fourth", Edge.STATE, () -> workers(4, 3), x -> x.addMember(0, 3, 1));
        Edge.refused("5 a fourth where all is full", Edge.STATE, Houses::full, x -> x.addMember(3, 4, 1));
    }

    private static void addMemberOrder() {
        // Resource 0 is a MATERIAL, 1 and 2 are members of crew 0; crew 1 of the second house is full.
        Edge.refused("5 crew before number", Edge.BOUNDS, Houses::some, x -> x.addMember(2, 1, 0));
        Edge.refused("5 crew before MATERIAL", Edge.BOUNDS, Houses::some, x -> x.addMember(2, 0, 1));
        Edge.refused("5 resource before number", Edge.BOUNDS, Houses::some, x -> x.addMember(0, 5, 10));
        Edge.refused("5 resource before full", Edge.BOUNDS, Houses::full, x -> x.addMember(1, 12, 1));
        Edge.refused("5 number before MATERIAL", Edge.ARGUMENT, Houses::some, x -> x.addMember(0, 0, 0));
        Edge.refused("5 number before member", Edge.ARGUMENT, Houses::some, x -> x.addMember(0, 1, 10));
        Edge.refused("5 number before full", Edge.ARGUMENT, Houses::full, x -> x.addMember(1, 4, 0));
        Edge.refused("5 MATERIAL before full", Edge.UNSUPPORTED, Houses::full, x -> x.addMember(1, 0, 1));
        Edge.refused("5 a member of a full crew", Edge.STATE, Houses::full, x -> x.addMember(1, 1, 1));
    }
}
