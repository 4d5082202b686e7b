/** Boundary cases of promises 29 to 41: amounts and costs. Each comment quotes the sentence that is tested. */
public final class CostsEdgeTest {
    public static void main(String[] args) {
        amountResource();
        amountOfNothing();
        amountBeyondInt();
        amountByTreeOfTheSetThatIsOn();
        amountOfOneThatIsReplaced();
        packsResource();
        packsWasteRoundedUp();
        packsAsFewAsCanBe();
        packsOfNothing();
        costOfLineLine();
        costOfLineEdges();
        costOfTradeTrade();
        costOfTradeEdges();
        costOfKindKind();
        costOfKindEdges();
        netEdges();
        extraEdges();
        totalEdges();
        dearestRank();
        dearestSameCost();
        dearestMoreThanZero();
        dearestOfTwelve();
        dearestBeyondInt();
        shareKind();
        shareNetZero();
        shareEdges();
        shareOrder();
        factorNetZero();
        factorEdges();
        isSoundAlways();
        Check.end();
    }

    /** So many units of a MATERIAL. */
    private static Takeoff units(int price, int waste, int pack, int units) {
        Takeoff x = new Takeoff();
        x.addResource(Takeoff.MATERIAL, price, waste, pack);
        x.addItem(0);
        x.addUse(0, 0, 1);
        x.addLine(0);
        Houses.measure(x, 0, units);
        return x;
    }

    /** 10000 units of an item of depth 3, that needs 99 times 9 times 9 of a PLANT for 9999 cents. */
    private static Takeoff great() {
        Takeoff x = new Takeoff();
        x.addResource(Takeoff.PLANT, 9999, 50, 99);
        for (int k = 0; k < 3; k++) {
            x.addItem(k);
        }
        x.addUse(2, 0, 99);
        x.addPart(1, 2, 9);
        x.addPart(0, 1, 9);
        x.addLine(0);
        Houses.measure(x, 0, 10000);
        return x;
    }

    private static final long GREAT_AMOUNT = 99L * 81 * 10000;
    private static final long GREAT_NET = GREAT_AMOUNT * 9999;
    private static final long GREAT_EXTRA = GREAT_AMOUNT / 2 * 9999;

    // ---- promises 29 and 30

    /** "Throws IndexOutOfBoundsException if there is no such resource" */
    private static void amountResource() {
        Edge.numbers("29 no resources", 0, Takeoff::new, (x, resource) -> x.amount(resource));
        Edge.numbers("29 resource", 5, Houses::some, (x, resource) -> x.amount(resource));
        Edge.numbers("29 resource of 12", 12, Houses::full, (x, resource) -> x.amount(resource));
        Edge.asks("29 asks only", Houses::some, x -> x.amount(3));
        Edge.numbers("30 no resources", 0, Takeoff::new, (x, resource) -> x.amountByTree(resource));
        Edge.numbers("30 resource", 5, Houses::some, (x, resource) -> x.amountByTree(resource));
        Edge.numbers("30 resource of 12", 12, Houses::full, (x, resource) -> x.amountByTree(resource));
        Edge.asks("30 asks only", Houses::some, x -> x.amountByTree(3));
    }

    private static void nothing(String what, Edge.Call before) {
        Edge.answers("29 " + what, "0 0", () -> units(5, 50, 99, 0), x -> {
            before.on(x);
            return x.amount(0);
        }, x -> x.amountByTree(0));
    }

    private static void amountOfNothing() {
        nothing("a line without rows", x -> null);
        nothing("a line of quantity 0", x -> x.addRow(0, 'l', 9, 0, 1, 1));
        nothing("a resource that is not used", x -> {
            x.dropLast(0);
            return x.addRow(0, 'n', 9, 1, 1, 1);
        });
        nothing("an item that is in no line", x -> {
            x.addItem(0);
            return x.addUse(1, 0, 9);
        });
        Edge.answers("29 nothing but a part", "9 9", () -> units(5, 0, 1, 0), x -> {
            x.addItem(0);
            x.addPart(1, 0, 9);
            x.addLine(1);
            x.addRow(1, 'n', 1, 0, 0, 0);
            return x.amount(0);
        }, x -> x.amountByTree(0));
    }

    private static void amountBeyondInt() {
        Edge.answer("29 an amount", GREAT_AMOUNT, CostsEdgeTest::great, x -> x.amount(0));
        Edge.answer("30 the same by tree", GREAT_AMOUNT, CostsEdgeTest::great, x -> x.amountByTree(0));
        Edge.answer("29 beyond an int", 9 * GREAT_AMOUNT * 3, CostsEdgeTest::greater, x -> x.amount(0));
        Edge.answer("30 beyond an int", 9 * GREAT_AMOUNT * 3, CostsEdgeTest::greater, x -> x.amountByTree(0));
    }

    /** Promise 25 tries other sets, and promise 24 one of them; what is on is asked all the same. */
    private static void amountByTreeOfTheSetThatIsOn() {
        Edge.answers("30 asked first of all", "42", Houses::some, x -> x.amountByTree(4));
        Edge.answers("30 asked behind other sets", "1 42 42", Houses::some, x -> x.cheapestVariants(),
            x -> x.amountByTree(4), x -> x.amount(4));
    }

    /** "The amount of a resource is the number of its units that are needed": of itself, not of what is meant for it */
    private static void amountOfOneThatIsReplaced() {
        Edge.answers("29 one that is replaced, and the one by which it is", "0 42", Houses::some, x -> x.amount(1),
            x -> x.amount(4));
        Edge.answers("30 one that is replaced, and the one by which it is", "0 42", Houses::some,
            x -> x.amountByTree(1), x -> x.amountByTree(4));
        Edge.answers("31 one that is replaced, and the one by which it is", "0 5", Houses::some, x -> x.packs(1),
            x -> x.packs(4));
    }

    /** The same with nine of the PLANT in a crew, in three works. */
    private static Takeoff greater() {
        Takeoff x = great();
        x.addCrew();
        x.addMember(0, 0, 9);
        x.dropLast(2);
        for (int k = 0; k < 3; k++) {
            x.addWork(2, 0, 99);
        }
        return x;
    }

    // ---- promise 31

    /** "Throws IndexOutOfBoundsException if there is no such resource" */
    private static void packsResource() {
        Edge.numbers("31 no resources", 0, Takeoff::new, (x, resource) -> x.packs(resource));
        Edge.numbers("31 resource", 5, Houses::some, (x, resource) -> x.packs(resource));
        Edge.numbers("31 resource of 12", 12, Houses::full, (x, resource) -> x.packs(resource));
        Edge.asks("31 asks only", Houses::some, x -> x.packs(3));
    }

    private static void packs(int due, int waste, int pack, int units) {
        Edge.answers("31 " + units + " units, waste " + waste + ", packs of " + pack,
            due + " " + 3 * (due * pack - units), () -> units(3, waste, pack, units), x -> x.packs(0), x -> x.extra());
    }

    /** "the amount times the waste, divided by 100 and rounded up" */
    private static void packsWasteRoundedUp() {
        packs(2, 1, 1, 1);
        packs(100, 1, 1, 99);
        packs(101, 1, 1, 100);
        packs(103, 1, 1, 101);
        packs(2, 50, 1, 1);
        packs(3, 50, 1, 2);
        packs(5, 50, 1, 3);
        packs(15000, 50, 1, 10000);
        packs(10000, 0, 1, 10000);
        packs(1, 0, 1, 1);
        packs(52, 3, 1, 50);
        packs(34, 3, 1, 33);
        packs(36, 3, 1, 34);
    }

    /** "as few packs as have as many units" */
    private static void packsAsFewAsCanBe() {
        packs(1, 0, 99, 1);
        packs(1, 0, 99, 98);
        packs(1, 0, 99, 99);
        packs(2, 0, 99, 100);
        packs(2, 0, 99, 198);
        packs(3, 0, 99, 199);
        packs(1, 50, 99, 66);
        packs(2, 50, 99, 67);
        packs(5, 10, 11, 50);
        packs(6, 10, 11, 51);
        packs(5, 0, 2, 9);
        packs(5, 0, 2, 10);
    }

    private static void packsOfNothing() {
        packs(0, 0, 1, 0);
        packs(0, 50, 99, 0);
        packs(0, 1, 2, 0);
    }

    // ---- promise 32

    /** "Throws IndexOutOfBoundsException if there is no such line" */
    private static void costOfLineLine() {
        Edge.numbers("32 no lines", 0, Takeoff::new, (x, line) -> x.costOfLine(line));
        Edge.numbers("32 line", 4, Houses::some, (x, line) -> x.costOfLine(line));
        Edge.numbers("32 line of 10", 10, Houses::full, (x, line) -> x.costOfLine(line));
        Edge.asks("32 asks only", Houses::some, x -> x.costOfLine(0));
    }

    private static void costOfLineEdges() {
        Edge.answer("32 no rows", 0, () -> units(5, 50, 99, 0), x -> x.costOfLine(0));
        Edge.answer("32 one unit, without waste and packs", 5, () -> units(5, 50, 99, 1), x -> x.costOfLine(0));
        Edge.answer("32 the greatest quantity", 50000, () -> units(5, 50, 99, 10000), x -> x.costOfLine(0));
        Edge.answer("32 beyond an int", GREAT_NET, CostsEdgeTest::great, x -> x.costOfLine(0));
        Edge.answer("32 for nothing", 0, () -> units(0, 50, 99, 10000), x -> x.costOfLine(0));
    }

    // ---- promise 33

    /** "trade: the trade, 0 to 5" */
    private static void costOfTradeTrade() {
        Edge.range("33 trade", 0, 5, Edge.ARGUMENT, Takeoff::new, (x, trade) -> x.costOfTrade(trade));
        Edge.range("33 trade of some", 0, 5, Edge.ARGUMENT, Houses::some, (x, trade) -> x.costOfTrade(trade));
        Edge.asks("33 asks only", Houses::some, x -> x.costOfTrade(4));
    }

    /** "uses and works of items of this trade, whatever the trade of the items in which these are parts" */
    private static void costOfTradeEdges() {
        Edge.answers("33 of the item that has the use", "0 0 " + GREAT_NET + " 0", CostsEdgeTest::great,
            x -> x.costOfTrade(0), x -> x.costOfTrade(1), x -> x.costOfTrade(2), x -> x.costOfTrade(3));
        for (int k = 0; k < 6; k++) {
            int trade = k;
            Edge.answer("33 nothing at all " + k, 0, Takeoff::new, x -> x.costOfTrade(trade));
        }
        Edge.answer("33 no rows", 0, () -> units(5, 50, 99, 0), x -> x.costOfTrade(0));
    }

    // ---- promise 34

    /** "kind: MATERIAL, LABOUR or PLANT" */
    private static void costOfKindKind() {
        Edge.range("34 kind", 0, 2, Edge.ARGUMENT, Takeoff::new, (x, kind) -> x.costOfKind(kind));
        Edge.range("34 kind of some", 0, 2, Edge.ARGUMENT, Houses::some, (x, kind) -> x.costOfKind(kind));
        Edge.asks("34 asks only", Houses::some, x -> x.costOfKind(1));
    }

    private static void costOfKindEdges() {
        Edge.answers("34 one kind only", "0 0 " + GREAT_NET, CostsEdgeTest::great, x -> x.costOfKind(0),
            x -> x.costOfKind(1), x -> x.costOfKind(2));
        Edge.answers("34 nothing at all", "0 0 0", Takeoff::new, x -> x.costOfKind(0), x -> x.costOfKind(1),
            x -> x.costOfKind(2));
    }

    // ---- promises 35 to 37

    private static void netEdges() {
        Edge.answer("35 nothing at all", 0, Takeoff::new, x -> x.net());
        Edge.answer("35 no rows", 0, () -> units(5, 50, 99, 0), x -> x.net());
        Edge.answer("35 the least", 1, () -> units(1, 50, 99, 1), x -> x.net());
        Edge.answer("35 beyond an int", GREAT_NET, CostsEdgeTest::great, x -> x.net());
        Edge.asks("35 asks only", Houses::some, x -> x.net());
    }

    /** "the units that are bought, less the amount, times the price" */
    private static void extraEdges() {
        Edge.answer("36 nothing at all", 0, Takeoff::new, x -> x.extra());
        Edge.answer("36 none needed", 0, () -> units(5, 50, 99, 0), x -> x.extra());
        Edge.answer("36 for nothing", 0, () -> units(0, 50, 99, 10), x -> x.extra());
        Edge.answer("36 just as many", 0, () -> units(5, 0, 99, 99), x -> x.extra());
        Edge.answer("36 one more", 5, () -> units(5, 0, 99, 98), x -> x.extra());
        Edge.answer("36 98 more", 490, () -> units(5, 0, 99, 100), x -> x.extra());
        Edge.answer("36 beyond an int", GREAT_EXTRA, CostsEdgeTest::great, x -> x.extra());
        Edge.asks("36 asks only", Houses::some, x -> x.extra());
    }

    /** "The total is the net cost plus the extra cost plus all mark-ups." */
    private static void totalEdges() {
        Edge.answer("37 nothing at all", 0, Takeoff::new, x -> x.total());
        Edge.answer("37 no mark-ups", 99, () -> units(1, 50, 99, 1), x -> x.total());
        Edge.answers("37 one to four mark-ups", "0 105 1 110 2 115 3 120", () -> units(1, 0, 99, 1),
            x -> x.addMarkup(7, 8), x -> x.total(), x -> x.addMarkup(6, 8), x -> x.total(), x -> x.addMarkup(6, 8),
            x -> x.total(), x -> x.addMarkup(6, 8), x -> x.total());
        Edge.answer("37 beyond an int", GREAT_NET + GREAT_EXTRA, CostsEdgeTest::great, x -> x.total());
        Edge.asks("37 asks only", Houses::some, x -> x.total());
    }

    // ---- promise 38

    /** The LABOURs 0, 1, 2.. one unit of each for such prices. */
    private static Takeoff prices(int... prices) {
        Takeoff x = new Takeoff();
        x.addLine(x.addItem(0));
        x.addRow(0, 'n', 1, 0, 0, 0);
        x.addCrew();
        for (int k = 0; k < prices.length; k++) {
            x.addResource(Takeoff.LABOUR, prices[k], 0, 1);
            if (k % 3 == 0 && k > 0) {
                x.addCrew();
            }
            x.addMember(k / 3, k, 1);
            if (k % 3 == 0) {
                x.addWork(0, k / 3, 1);
            }
        }
        return x;
    }

    private static void ranks(String what, String due, int... prices) {
        Takeoff x = prices(prices);
        StringBuilder got = new StringBuilder();
        for (int rank = 0; rank <= prices.length; rank++) {
            int asked = rank;
            String outcome = Edge.outcome(x, y -> y.dearest(asked));
            if (outcome.startsWith("throws ")) {
                Check.compare("38 " + what + ", behind the last", "throws NoSuchElementException", outcome);
                break;
            }
            got.append(rank == 0 ? "" : " ").append(outcome);
        }
        Check.compare("38 " + what, due, got.toString());
        int count = due.isEmpty() ? 0 : due.split(" ").length;
        for (int wrong : new int[] {-1, count, count + 1, count + 31, Integer.MIN_VALUE, Integer.MAX_VALUE}) {
            Edge.refused("38 " + what + ", rank " + wrong, Edge.NO_ELEMENT, () -> prices(prices),
                y -> y.dearest(wrong));
        }
    }

    /** "rank: the rank, from 0" "Throws NoSuchElementException if there is no such rank" */
    private static void dearestRank() {
        for (int wrong : new int[] {0, -1, 1, Integer.MIN_VALUE, Integer.MAX_VALUE}) {
            Edge.refused("38 nothing at all, rank " + wrong, Edge.NO_ELEMENT, Takeoff::new, x -> x.dearest(wrong));
        }
        ranks("no resources", "");
        ranks("one", "0", 7);
        ranks("three", "1 2 0", 7, 9, 8);
        Edge.asks("38 asks only", Houses::some, x -> x.dearest(1));
    }

    /** "the greatest first, those with the same cost by their numbers" */
    private static void dearestSameCost() {
        ranks("all the same", "0 1 2 3", 5, 5, 5, 5);
        ranks("the same behind", "1 0 2 3", 5, 6, 5, 5);
        ranks("the same before", "0 2 3 1", 5, 4, 5, 5);
    }

    /** "only resources that cost more than 0 are in this order" */
    private static void dearestMoreThanZero() {
        ranks("for nothing", "", 0, 0);
        ranks("for 1 cent", "1", 0, 1, 0);
        ranks("the last for nothing", "0", 1, 0);
        Edge.answers("38 none needed", "throws NoSuchElementException", () -> units(9999, 50, 99, 0),
            x -> x.dearest(0));
    }

    private static void dearestOfTwelve() {
        ranks("twelve, rising", "11 10 9 8 7 6 5 4 3 2 1 0", 1, 2, 3, 4, 5, 6, 7, 8, 9, 10, 11, 12);
        ranks("twelve, falling", "0 1 2 3 4 5 6 7 8 9 10 11", 12, 11, 10, 9, 8, 7, 6, 5, 4, 3, 2, 1);
        ranks("twelve, the same", "0 1 2 3 4 5 6 7 8 9 10 11", 9, 9, 9, 9, 9, 9, 9, 9, 9, 9, 9, 9);
    }

    /** One resource that costs 2 to the power of 32, which is 0 as an int, and one for a single cent. */
    private static Takeoff powerOfTwo(int price) {
        Takeoff x = units(price, 0, 1, 8192);
        x.dropLast(0);
        x.addUse(0, 0, 64);
        x.addResource(Takeoff.MATERIAL, 1, 0, 1);
        x.addItem(0);
        x.addUse(1, 1, 1);
        x.addLine(1);
        x.addRow(1, 'n', 1, 0, 0, 0);
        return x;
    }

    private static void dearestBeyondInt() {
        Edge.answers("38 a cost of 2 to the power of 32", "4294967297 0 1", () -> powerOfTwo(8192), x -> x.net(),
            x -> x.dearest(0), x -> x.dearest(1));
        Edge.answers("38 a cost that is less than 0 as an int", "2147483649 0 1", () -> powerOfTwo(4096),
            x -> x.net(), x -> x.dearest(0), x -> x.dearest(1));
    }

    // ---- promise 39

    /** "kind: MATERIAL, LABOUR or PLANT" */
    private static void shareKind() {
        Edge.range("39 kind", 0, 2, Edge.ARGUMENT, Houses::some, (x, kind) -> x.share(kind));
        Edge.asks("39 asks only", Houses::some, x -> x.share(1));
    }

    /** "Throws ArithmeticException if the net cost is 0" */
    private static void shareNetZero() {
        for (int k = 0; k < 3; k++) {
            int kind = k;
            Edge.refused("39 nothing at all " + k, Edge.ARITHMETIC, Takeoff::new, x -> x.share(kind));
            Edge.refused("39 none needed " + k, Edge.ARITHMETIC, () -> units(5, 50, 99, 0), x -> x.share(kind));
            Edge.refused("39 for nothing " + k, Edge.ARITHMETIC, () -> units(0, 50, 99, 5), x -> x.share(kind));
        }
        Edge.answer("39 a net cost of 1", 1f, () -> units(1, 0, 1, 1), x -> x.share(0));
    }

    private static void shareEdges() {
        Edge.answers("39 all and nothing", "1.0 0.0 0.0", () -> units(5, 50, 99, 7), x -> x.share(0),
            x -> x.share(1), x -> x.share(2));
        Edge.answers("39 all, beyond an int", "0.0 0.0 1.0", CostsEdgeTest::great, x -> x.share(0), x -> x.share(1),
            x -> x.share(2));
        Edge.answers("39 a third", 1f / 3f + " " + 2f / 3f, CostsEdgeTest::third, x -> x.share(0), x -> x.share(1));
    }

    private static Takeoff third() {
        Takeoff x = units(1, 0, 1, 1);
        x.addResource(Takeoff.LABOUR, 2, 0, 1);
        x.addUse(0, 1, 1);
        return x;
    }

    private static void shareOrder() {
        for (int wrong : new int[] {-1, 3, Integer.MIN_VALUE, Integer.MAX_VALUE}) {
            Edge.refused("39 kind " + wrong + " before net cost 0", Edge.ARGUMENT, Takeoff::new, x -> x.share(wrong));
        }
    }

    // ---- promise 40

    /** "Throws ArithmeticException if the net cost is 0" */
    private static void factorNetZero() {
        Edge.refused("40 nothing at all", Edge.ARITHMETIC, Takeoff::new, x -> x.factor());
        Edge.refused("40 none needed", Edge.ARITHMETIC, () -> units(5, 50, 99, 0), x -> x.factor());
        Edge.refused("40 for nothing", Edge.ARITHMETIC, () -> units(0, 50, 99, 5), x -> x.factor());
        Edge.asks("40 asks only", Houses::some, x -> x.factor());
    }

    private static void factorEdges() {
        Edge.answer("40 nothing more than the net cost", 1.0, () -> units(1, 0, 1, 1), x -> x.factor());
        Edge.answer("40 99 times as much", 99.0, () -> units(1, 0, 99, 1), x -> x.factor());
        Edge.answer("40 beyond an int", 1.5, CostsEdgeTest::great, x -> x.factor());
        Edge.answer("40 a third more", 4.0 / 3.0, () -> units(1, 0, 4, 3), x -> x.factor());
    }

    // ---- promise 41

    private static void isSoundAlways() {
        Edge.answer("41 nothing at all", true, Takeoff::new, x -> x.isSound());
        Edge.answer("41 some", true, Houses::some, x -> x.isSound());
        Edge.answer("41 as much as there can be", true, Houses::full, x -> x.isSound());
        Edge.answer("41 beyond an int", true, CostsEdgeTest::great, x -> x.isSound());
        Edge.asks("41 asks only", Houses::some, x -> x.isSound());
    }
}
