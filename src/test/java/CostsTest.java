import java.math.BigInteger;
import java.util.NoSuchElementException;

/** Promises 29 to 41: amounts and costs. */
public final class CostsTest {
    public static void main(String[] args) {
        amounts();
        packs();
        packsAtTheEdges();
        costs();
        costsWithVariants();
        tradesOfManyItems();
        membersThatMeanTheSame();
        askedFirst();
        askedAfterOtherSets();
        fullObject();
        dearest();
        dearestOfEqualOnes();
        share();
        factor();
        isSound();
        dearestBuilding();
        Check.end();
    }

    /** Amounts 45, 200 and 100; item 0 of trade 4 is needed 10 times, item 1 of trade 2 three times. */
    private static Takeoff house() {
        Takeoff x = new Takeoff();
        x.addResource(Takeoff.MATERIAL, 20, 7, 6);
        x.addResource(Takeoff.LABOUR, 45, 0, 60);
        x.addResource(Takeoff.PLANT, 8, 50, 1);
        x.addCrew();
        x.addMember(0, 1, 2);
        x.addMember(0, 2, 1);
        x.addItem(4);
        x.addUse(0, 0, 3);
        x.addWork(0, 0, 10);
        x.addItem(2);
        x.addPart(1, 0, 2);
        x.addUse(1, 0, 5);
        x.addLine(1);
        x.addLine(0);
        x.addLine(1);
        x.addRow(0, 'n', 3, 0, 0, 0);
        x.addRow(1, 'l', 2, 2, 0, 0);
        return x;
    }

    private static void amounts() {
        Takeoff x = house();
        long[] due = {45, 200, 100};
        for (int k = 0; k < 3; k++) {
            int resource = k;
            Check.due("amount " + k, due[k], () -> x.amount(resource));
            Check.due("amountByTree " + k, due[k], () -> x.amountByTree(resource));
        }
        for (int wrong : new int[] {-1, 3, 12, Integer.MIN_VALUE, Integer.MAX_VALUE}) {
            Check.thrown("amount " + wrong, IndexOutOfBoundsException.class, () -> x.amount(wrong));
            Check.thrown("amountByTree " + wrong, IndexOutOfBoundsException.class, () -> x.amountByTree(wrong));
            Check.thrown("packs " + wrong, IndexOutOfBoundsException.class, () -> x.packs(wrong));
        }
        x.addRow(2, 'n', 1, 0, 0, 0);
        Check.due("one unit more", 56, () -> x.amount(0));
        Check.due("one unit more, by tree", 56, () -> x.amountByTree(0));
        x.dropRow(0);
        Check.due("three less", 23, () -> x.amount(0));
        Check.due("three less, by tree", 23, () -> x.amountByTree(0));
        x.dropLast(1);
        Check.due("without a use", 18, () -> x.amount(0));
        Check.due("without a use, by tree", 18, () -> x.amountByTree(0));
    }

    private static void packs() {
        Takeoff x = house();
        Check.due("45 and 4 in packs of 6", 9, () -> x.packs(0));
        Check.due("200 in packs of 60", 4, () -> x.packs(1));
        Check.due("100 and 50", 150, () -> x.packs(2));
        Check.due("9 for 20, 40 for 45, 50 for 8", 2380, () -> x.extra());
        x.setPrice(1, 0);
        Check.due("without price no extra cost", 580, () -> x.extra());
        x.addResource(Takeoff.MATERIAL, 1, 50, 99);
        Check.due("none needed, none bought", 0, () -> x.packs(3));
    }

    private static void packsAtTheEdges() {
        int[][] dues = {
            // waste, pack, amount, packs
            {0, 1, 0, 0}, {50, 99, 0, 0}, {0, 1, 1, 1}, {1, 1, 1, 2}, {50, 1, 2, 3}, {50, 1, 3, 5}, {1, 1, 99, 100},
            {0, 99, 99, 1}, {1, 99, 98, 1}, {1, 99, 99, 2}, {7, 1, 100, 107}, {7, 1, 101, 109},
            {10, 11, 10, 1}, {10, 11, 11, 2}, {50, 99, 66, 1}, {50, 99, 67, 2},
        };
        for (int[] due : dues) {
            Takeoff x = new Takeoff();
            x.addResource(Takeoff.MATERIAL, 3, due[0], due[1]);
            x.addItem(0);
            x.addUse(0, 0, 1);
            x.addLine(0);
            for (int left = due[2]; left > 0; left -= 99) {
                x.addRow(0, 'n', Math.min(left, 99), 0, 0, 0);
            }
            String what = java.util.Arrays.toString(due);
            Check.due("amount " + what, due[2], () -> x.amount(0));
            Check.due("packs " + what, due[3], () -> x.packs(0));
            Check.due("extra " + what, 3 * (due[3] * due[1] - due[2]), () -> x.extra());
        }
    }

    private static void costs() {
        Takeoff x = house();
        long[] lines = {6540, 4160, 0};
        long[] trades = {0, 0, 300, 0, 10400, 0};
        long[] kinds = {900, 9000, 800};
        for (int k = 0; k < 6; k++) {
            int number = k;
            Check.due("trade " + k, trades[k], () -> x.costOfTrade(number));
            if (k < 3) {
                Check.due("line " + k, lines[k], () -> x.costOfLine(number));
                Check.due("kind " + k, kinds[k], () -> x.costOfKind(number));
            }
        }
        Check.due("net", 10700, () -> x.net());
        Check.due("extra", 2380, () -> x.extra());
        Check.due("total", 13080, () -> x.total());
        x.addMarkup(10, 15);
        x.addMarkup(1, 16);
        Check.due("net, without mark-ups", 10700, () -> x.net());
        Check.due("extra, without mark-ups", 2380, () -> x.extra());
        Check.due("total, with both mark-ups", 13080 + 1308 + 13, () -> x.total());
        for (int wrong : new int[] {-1, 6, Integer.MIN_VALUE, Integer.MAX_VALUE}) {
            Check.thrown("trade " + wrong, IllegalArgumentException.class, () -> x.costOfTrade(wrong));
            Check.thrown("kind " + wrong, IllegalArgumentException.class, () -> x.costOfKind(wrong));
            Check.thrown("line " + wrong, IndexOutOfBoundsException.class, () -> x.costOfLine(wrong));
        }
        Check.thrown("kind 3", IllegalArgumentException.class, () -> x.costOfKind(3));
        Check.thrown("line 3", IndexOutOfBoundsException.class, () -> x.costOfLine(3));
    }

    private static void costsWithVariants() {
        Takeoff x = house();
        x.addItem(0);
        x.addUse(2, 0, 1);
        x.addVariant();
        x.replaceItem(0, 0, 2);
        x.turn(0, true);
        Check.due("amount", 25, () -> x.amount(0));
        Check.due("amountByTree", 25, () -> x.amountByTree(0));
        Check.due("no LABOUR", 0, () -> x.amount(1));
        Check.due("no LABOUR by tree", 0, () -> x.amountByTree(1));
        Check.due("the item is meant in a part", 420, () -> x.costOfLine(0));
        Check.due("the item is meant in a line", 80, () -> x.costOfLine(1));
        Check.due("the trade of the item that is meant", 200, () -> x.costOfTrade(0));
        Check.due("the trade of the replaced item", 0, () -> x.costOfTrade(4));
        Check.due("the trade of the whole", 300, () -> x.costOfTrade(2));
        Check.due("kind", 500, () -> x.costOfKind(0));
        Check.due("net", 500, () -> x.net());
        Check.dueFlag("sound", true, () -> x.isSound());
    }

    private static void tradesOfManyItems() {
        Takeoff x = new Takeoff();
        x.addResource(Takeoff.MATERIAL, 1, 0, 1);
        int[] trades = {1, 1, 5, 5};
        for (int k = 0; k < 4; k++) {
            x.addItem(trades[k]);
            x.addUse(k, 0, 1 + k);
        }
        x.addPart(0, 1, 2);
        x.addPart(1, 2, 3);
        x.addPart(1, 3, 1);
        x.addLine(0);
        x.addLine(1);
        x.addRow(0, 'n', 10, 0, 0, 0);
        x.addRow(1, 'n', 1, 0, 0, 0);
        Check.due("10 of item 0, 21 of item 1", 10 + 42, () -> x.costOfTrade(1));
        Check.due("63 of item 2, 21 of item 3", 189 + 84, () -> x.costOfTrade(5));
        Check.due("all of them", 325, () -> x.net());
    }

    private static void membersThatMeanTheSame() {
        Takeoff x = house();
        x.addResource(Takeoff.PLANT, 9, 0, 1);
        x.addMember(0, 3, 4);
        x.addVariant();
        x.replaceResource(0, 3, 2);
        x.turn(0, true);
        Check.due("amount", 500, () -> x.amount(2));
        Check.due("amountByTree", 500, () -> x.amountByTree(2));
        Check.due("none of the replaced one", 0, () -> x.amount(3));
    }

    /** No answer may rest on an earlier question. */
    private static void askedFirst() {
        Check.due("depthOf", 2, () -> house().depthOf(1));
        Check.due("unitCost", 2180, () -> house().unitCost(1));
        Check.due("needed", 11, () -> house().needed(1, 0));
        Check.due("amount", 45, () -> house().amount(0));
        Check.due("amountByTree", 45, () -> house().amountByTree(0));
        Check.due("packs", 9, () -> house().packs(0));
        Check.due("costOfLine", 6540, () -> house().costOfLine(0));
        Check.due("costOfTrade", 10400, () -> house().costOfTrade(4));
        Check.due("costOfKind", 9000, () -> house().costOfKind(1));
        Check.due("net", 10700, () -> house().net());
        Check.due("extra", 2380, () -> house().extra());
        Check.due("total", 13080, () -> house().total());
        Check.due("dearest", 2, () -> house().dearest(2));
        Check.dueReal("share", 900f / 10700f, () -> house().share(0));
        Check.dueReal("factor", 13080d / 10700d, () -> house().factor());
        Check.dueFlag("isSound", true, () -> house().isSound());
        Check.due("cheapestVariants", 0, () -> house().cheapestVariants());
    }

    /** Nor on a question, or a call that throws, for which other variants were tried. */
    private static void askedAfterOtherSets() {
        Takeoff x = house();
        x.addVariant();
        x.replaceResource(x.addVariant(), 0, x.addResource(Takeoff.MATERIAL, 0, 0, 1));
        x.replaceItem(0, 0, 1);
        Check.due("cheapestVariants", 2, () -> x.cheapestVariants());
        Check.due("amountByTree", 45, () -> x.amountByTree(0));
        x.difference(1);
        Check.due("amountByTree", 45, () -> x.amountByTree(0));
        Check.thrown("difference", UnsupportedOperationException.class, () -> x.difference(0));
        Check.due("amountByTree", 45, () -> x.amountByTree(0));
        Check.thrown("turn", UnsupportedOperationException.class, () -> x.turn(0, true));
        Check.due("depthOf", 1, () -> x.depthOf(0));
        Check.thrown("turn", UnsupportedOperationException.class, () -> x.turn(0, true));
        Check.due("amount", 45, () -> x.amount(0));
    }

    /** As much of everything as there can be: each of 12 items uses one of 12 resources. */
    private static void fullObject() {
        Takeoff x = new Takeoff();
        for (int k = 0; k < 12; k++) {
            x.addResource(k % 3, 1, 0, 1);
            x.addItem(k % 6);
            x.addUse(k, k, 1);
        }
        x.addPart(11, 10, 9);
        x.addPart(10, 9, 9);
        for (int k = 0; k < 10; k++) {
            x.addLine(k + 2);
            x.addRow(k, 'n', 1 + k, 0, 0, 0);
        }
        for (int k = 0; k < 4; k++) {
            x.addCrew();
            x.addVariant();
            x.replaceItem(k, k, k + 1);
            x.addMarkup(10, 1);
        }
        Check.due("the deepest", 3, () -> x.depthOf(11));
        Check.due("9 for line 8, 90 for line 9", 99, () -> x.amount(10));
        Check.due("8, and 9 times 99", 899, () -> x.amount(9));
        Check.due("the same by tree", 899, () -> x.amountByTree(9));
        Check.due("the last resource", 10, () -> x.amountByTree(11));
        Check.due("net", 28 + 899 + 99 + 10, () -> x.net());
        Check.due("the last trade", 4 + 10, () -> x.costOfTrade(5));
        Check.due("the last line", 10 * 91, () -> x.costOfLine(9));
        Check.due("the last of the order", 2, () -> x.dearest(9));
        Check.due("cheapestVariants", 0, () -> x.cheapestVariants());
        Check.dueFlag("isSound", true, () -> x.isSound());
    }

    private static void dearest() {
        Takeoff x = house();
        x.addResource(Takeoff.MATERIAL, 9999, 0, 1);
        Check.due("9000", 1, () -> x.dearest(0));
        Check.due("900", 0, () -> x.dearest(1));
        Check.due("800", 2, () -> x.dearest(2));
        Check.thrown("0", NoSuchElementException.class, () -> x.dearest(3));
        Check.thrown("-1", NoSuchElementException.class, () -> x.dearest(-1));
        Check.thrown("the least int", NoSuchElementException.class, () -> x.dearest(Integer.MIN_VALUE));
        Check.thrown("the greatest int", NoSuchElementException.class, () -> x.dearest(Integer.MAX_VALUE));
        x.setPrice(0, 0);
        Check.due("800 is the next", 2, () -> x.dearest(1));
        Check.thrown("one less", NoSuchElementException.class, () -> x.dearest(2));
        Takeoff y = new Takeoff();
        y.addResource(Takeoff.PLANT, 1, 0, 1);
        y.addItem(0);
        y.addUse(0, 0, 1);
        y.addLine(0);
        y.addRow(0, 'n', 1, 0, 0, 0);
        Check.due("a cost of 1", 0, () -> y.dearest(0));
    }

    private static void dearestOfEqualOnes() {
        Takeoff x = new Takeoff();
        int[] prices = {5, 10, 11, 2};
        int[] quantities = {2, 1, 1, 5};
        x.addItem(0);
        for (int k = 0; k < 4; k++) {
            x.addResource(k % 3, prices[k], 0, 1);
            x.addUse(0, k, quantities[k]);
        }
        x.addLine(0);
        Check.thrown("no quantity", NoSuchElementException.class, () -> x.dearest(0));
        x.addRow(0, 'n', 1, 0, 0, 0);
        int[] due = {2, 0, 1, 3};
        for (int k = 0; k < 4; k++) {
            int rank = k;
            Check.due("rank " + k, due[k], () -> x.dearest(rank));
        }
        Check.thrown("rank 4", NoSuchElementException.class, () -> x.dearest(4));
    }

    private static void share() {
        Takeoff x = house();
        Check.dueReal("MATERIAL", 900f / 10700f, () -> x.share(Takeoff.MATERIAL));
        Check.dueReal("LABOUR", 9000f / 10700f, () -> x.share(Takeoff.LABOUR));
        Check.dueReal("PLANT", 800f / 10700f, () -> x.share(Takeoff.PLANT));
        Check.thrown("kind 3", IllegalArgumentException.class, () -> x.share(3));
        Check.thrown("kind -1", IllegalArgumentException.class, () -> x.share(-1));
        x.setPrice(1, 0);
        Check.dueReal("a kind that costs nothing", 0, () -> x.share(Takeoff.LABOUR));
        Takeoff empty = new Takeoff();
        Check.thrown("net cost 0", ArithmeticException.class, () -> empty.share(0));
        Check.thrown("net cost 0, kind 3", IllegalArgumentException.class, () -> empty.share(3));
        shareOfGreatCosts();
    }

    /** Costs for which the quotient of the floats is another one than that of the longs. */
    private static void shareOfGreatCosts() {
        Takeoff x = new Takeoff();
        x.addResource(Takeoff.MATERIAL, 9999, 0, 1);
        x.addResource(Takeoff.PLANT, 9973, 0, 1);
        x.addItem(0);
        x.addUse(0, 0, 99);
        x.addUse(0, 1, 2);
        x.addLine(0);
        x.addRow(0, 'r', 2, 90, 50, 0);
        Check.due("net", 9088623000L, () -> x.net());
        Check.dueReal("of the floats", (float) 8909109000L / (float) 9088623000L, () -> x.share(Takeoff.MATERIAL));
        Check.dueReal("of the doubles", 1, () -> x.factor());
    }

    private static void factor() {
        Takeoff x = house();
        Check.dueReal("with extra cost", 13080d / 10700d, () -> x.factor());
        x.addMarkup(10, 15);
        Check.dueReal("with a mark-up", 14388d / 10700d, () -> x.factor());
        x.dropRow(1);
        x.dropRow(0);
        Check.thrown("net cost 0", ArithmeticException.class, () -> x.factor());
        Takeoff empty = new Takeoff();
        Check.thrown("nothing at all", ArithmeticException.class, () -> empty.factor());
    }

    private static void isSound() {
        Takeoff x = house();
        Check.dueFlag("a house", true, () -> x.isSound());
        x.addMarkup(50, 15);
        x.addVariant();
        x.replaceItem(0, 0, 1);
        Check.thrown("does not fit", UnsupportedOperationException.class, () -> x.turn(0, true));
        Check.dueFlag("after a call that throws", true, () -> x.isSound());
        Check.dueFlag("a new object", true, () -> new Takeoff().isSound());
    }

    /** Nothing may overflow where all numbers are as great as they can be. */
    private static void dearestBuilding() {
        Takeoff x = new Takeoff();
        x.addCrew();
        for (int k = 0; k < 3; k++) {
            x.addResource(Takeoff.LABOUR, 9999, 50, 99);
            x.addMember(0, k, 9);
            x.addItem(k);
        }
        for (int k = 0; k < 4; k++) {
            x.addWork(0, 0, 99);
            x.addPart(1, 0, 9);
            x.addPart(2, 1, 9);
        }
        for (int k = 0; k < 10; k++) {
            x.addLine(2);
            x.addRow(k, 'r', 1, 99, 99, 0);
            x.addRow(k, 'l', 2, 99, 0, 0);
            x.addRow(k, 'n', 1, 0, 0, 0);
        }
        for (int k = 0; k < 4; k++) {
            x.addMarkup(50, (16 << k) - 1);
        }
        long amount = 100000L * 36 * 36 * 4 * 99 * 9;
        long net = 3 * amount * 9999;
        long packs = (amount * 3 / 2 + 98) / 99;
        long extra = 3 * (packs * 99 - amount) * 9999;
        Check.due("amount", amount, () -> x.amount(2));
        Check.due("amountByTree", amount, () -> x.amountByTree(2));
        Check.due("packs", packs, () -> x.packs(0));
        Check.due("net", net, () -> x.net());
        Check.due("extra", extra, () -> x.extra());
        Check.due("a line", net / 10, () -> x.costOfLine(9));
        Check.due("the trade of the works", net, () -> x.costOfTrade(0));
        BigInteger sum = BigInteger.valueOf(net).add(BigInteger.valueOf(extra));
        for (int k = 0; k < 4; k++) {
            int number = k;
            BigInteger markup = sum.multiply(BigInteger.valueOf(50)).divide(BigInteger.valueOf(100));
            Check.due("mark-up " + k, markup.longValueExact(), () -> x.markup(number));
            sum = sum.add(markup);
        }
        long total = sum.longValueExact();
        Check.due("total", total, () -> x.total());
        Check.dueReal("factor", (double) total / (double) net, () -> x.factor());
        Check.dueReal("share", 1, () -> x.share(Takeoff.LABOUR));
        Check.dueFlag("sound", true, () -> x.isSound());
    }
}
