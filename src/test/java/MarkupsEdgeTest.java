/** Boundary cases of promises 26 to 28: mark-ups. Each comment quotes the sentence that is tested. */
public final class MarkupsEdgeTest {
    public static void main(String[] args) {
        addMarkupPercent();
        addMarkupBases();
        addMarkupBasesForNothing();
        addMarkupOfNoBases();
        addMarkupFour();
        addMarkupOrder();
        setPercentMarkup();
        setPercentPercent();
        setPercentBefore();
        setPercentOrder();
        markupNumber();
        markupRoundedDown();
        markupSumOfBases();
        markupOnLowerOnes();
        markupOfNothing();
        Check.end();
    }

    /** One unit each of a MATERIAL, a LABOUR and a PLANT for 10, 200 and 3000 cents, and so many mark-ups. */
    private static Takeoff bases(int markups) {
        Takeoff x = new Takeoff();
        x.addResource(Takeoff.MATERIAL, 10, 0, 1);
        x.addResource(Takeoff.LABOUR, 200, 0, 1);
        x.addResource(Takeoff.PLANT, 3000, 0, 1);
        x.addItem(0);
        for (int k = 0; k < 3; k++) {
            x.addUse(0, k, 1);
        }
        x.addLine(0);
        x.addRow(0, 'n', 1, 0, 0, 0);
        for (int k = 0; k < markups; k++) {
            x.addMarkup(50, 7);
        }
        return x;
    }

    /** Costs of so many cents in all, by a MATERIAL for 1 cent. */
    private static Takeoff cents(int units) {
        Takeoff x = Houses.bare();
        x.addUse(0, 0, 1);
        Houses.measure(x, 0, units);
        return x;
    }

    // ---- promise 26

    /** "percent: the percent, 0 to 50" */
    private static void addMarkupPercent() {
        Edge.range("26 percent", 0, 50, Edge.ARGUMENT, () -> bases(2), (x, percent) -> x.addMarkup(percent, 7));
        Edge.answers("26 percent 0 counts", "0 0", () -> cents(1000), x -> x.addMarkup(0, 1), x -> x.markup(0));
        Edge.answers("26 percent 50 counts", "0 500", () -> cents(1000), x -> x.addMarkup(50, 1), x -> x.markup(0));
    }

    /** "the bits 0, 1 and 2 for the kinds, the bit 3 for the extra cost, the bit 4 plus k for the mark-up k" */
    private static void addMarkupBases() {
        for (int k = 0; k < 4; k++) {
            int markups = k;
            int all = (16 << k) - 1;
            Edge.answer("26 all bits that are for something, " + k, k, () -> bases(markups), x -> x.addMarkup(1, all));
            for (int bit = 0; bit < 4 + k; bit++) {
                int only = 1 << bit;
                Edge.answer("26 bit " + bit + ", " + k, k, () -> bases(markups), x -> x.addMarkup(1, only));
            }
        }
    }

    /** "Throws IllegalArgumentException if .. a bit is 1 that is for nothing" */
    private static void addMarkupBasesForNothing() {
        for (int k = 0; k < 4; k++) {
            int markups = k;
            for (int bit = 4 + k; bit < 32; bit++) {
                int only = 1 << bit;
                Edge.refused("26 bit " + bit + ", " + k, Edge.ARGUMENT, () -> bases(markups),
                    x -> x.addMarkup(1, only));
                Edge.refused("26 bit " + bit + " with others, " + k, Edge.ARGUMENT, () -> bases(markups),
                    x -> x.addMarkup(1, only | 15));
            }
            for (int wrong : new int[] {-1, Integer.MAX_VALUE, -16, (32 << k) - 1}) {
                Edge.refused("26 bases " + wrong + ", " + k, Edge.ARGUMENT, () -> bases(markups),
                    x -> x.addMarkup(1, wrong));
            }
        }
    }

    private static void addMarkupOfNoBases() {
        Edge.answers("26 no bases", "0 0 3210", () -> bases(0), x -> x.addMarkup(50, 0), x -> x.markup(0),
            x -> x.total());
    }

    /** "At most 4 mark-ups exist, numbered from 0." "Throws IllegalStateException if there are 4 mark-ups" */
    private static void addMarkupFour() {
        Edge.answer("26 the first", 0, Takeoff::new, x -> x.addMarkup(1, 1));
        Edge.answer("26 the fourth", 3, () -> bases(3), x -> x.addMarkup(1, 1));
        Edge.refused("26 a fifth", Edge.STATE, () -> bases(4), x -> x.addMarkup(1, 1));
        Edge.refused("26 a fifth where all is full", Edge.STATE, Houses::full, x -> x.addMarkup(0, 0));
        Edge.answers("26 a refused one takes no number", "throws IllegalArgumentException 2", Houses::some,
            x -> x.addMarkup(51, 1), x -> x.addMarkup(1, 1));
    }

    /** IllegalStateException is listed first here. */
    private static void addMarkupOrder() {
        for (int percent : new int[] {-1, 51}) {
            Edge.refused("26 full before percent " + percent, Edge.STATE, () -> bases(4), x -> x.addMarkup(percent, 1));
        }
        for (int wrong : new int[] {256, -1, Integer.MIN_VALUE}) {
            Edge.refused("26 full before bases " + wrong, Edge.STATE, () -> bases(4), x -> x.addMarkup(1, wrong));
            Edge.refused("26 full before both " + wrong, Edge.STATE, () -> bases(4), x -> x.addMarkup(51, wrong));
        }
        Edge.refused("26 full before the bit of the fifth itself", Edge.STATE, () -> bases(4), x -> x.addMarkup(1, 256));
        Edge.refused("26 both out of range", Edge.ARGUMENT, () -> bases(3), x -> x.addMarkup(51, 128));
    }

    // ---- promise 27

    /** "Throws IndexOutOfBoundsException if there is no such mark-up" */
    private static void setPercentMarkup() {
        Edge.numbers("27 no mark-ups", 0, () -> bases(0), (x, markup) -> x.setPercent(markup, 1));
        Edge.numbers("27 mark-up", 2, Houses::some, (x, markup) -> x.setPercent(markup, 1));
        Edge.numbers("27 mark-up of 4", 4, Houses::full, (x, markup) -> x.setPercent(markup, 1));
    }

    /** "percent: the percent, 0 to 50" */
    private static void setPercentPercent() {
        Edge.range("27 percent", 0, 50, Edge.ARGUMENT, Houses::some, (x, percent) -> x.setPercent(1, percent));
        Edge.answers("27 percent 0 counts", "50 0", () -> bases(1), x -> x.setPercent(0, 0), x -> x.markup(0));
        Edge.answers("27 percent 50 counts", "50 0 1605", () -> bases(1), x -> x.setPercent(0, 0),
            x -> x.setPercent(0, 50), x -> x.markup(0));
    }

    /** "Returns the percent before the call." */
    private static void setPercentBefore() {
        Edge.answers("27 the percent before", "5 0 50 50 10", Houses::some, x -> x.setPercent(1, 0),
            x -> x.setPercent(1, 50), x -> x.setPercent(1, 50), x -> x.setPercent(1, 1), x -> x.setPercent(0, 1));
    }

    private static void setPercentOrder() {
        Edge.refused("27 mark-up before percent", Edge.BOUNDS, Houses::some, x -> x.setPercent(2, 51));
        Edge.refused("27 mark-up -1 before percent", Edge.BOUNDS, Houses::some, x -> x.setPercent(-1, -1));
    }

    // ---- promise 28

    /** "Throws IndexOutOfBoundsException if there is no such mark-up" */
    private static void markupNumber() {
        Edge.numbers("28 no mark-ups", 0, () -> bases(0), (x, markup) -> x.markup(markup));
        Edge.numbers("28 mark-up", 2, Houses::some, (x, markup) -> x.markup(markup));
        Edge.numbers("28 mark-up of 4", 4, Houses::full, (x, markup) -> x.markup(markup));
        Edge.asks("28 asks only", Houses::some, x -> x.markup(1));
    }

    /** "the sum of its bases times the percent, divided by 100 and rounded down" */
    private static void markupRoundedDown() {
        int[][] dues = {{0, 50, 0}, {1, 50, 0}, {2, 50, 1}, {3, 50, 1}, {99, 1, 0}, {100, 1, 1}, {101, 1, 1},
            {199, 1, 1}, {200, 1, 2}, {33, 3, 0}, {34, 3, 1}, {66, 3, 1}, {67, 3, 2}, {10000, 49, 4900},
            {9999, 49, 4899}, {100, 0, 0}};
        for (int[] due : dues) {
            Edge.answers("28 " + due[1] + " percent of " + due[0], "0 " + due[2], () -> cents(due[0]),
                x -> x.addMarkup(due[1], 1), x -> x.markup(0));
        }
    }

    /** The bases are summed up before it is rounded, and each counts once. */
    private static void markupSumOfBases() {
        int[] costs = {10, 200, 3000, 40000};
        for (int k = 0; k < 16; k++) {
            int bases = k;
            int sum = 0;
            for (int bit = 0; bit < 4; bit++) {
                sum += (k >> bit & 1) * costs[bit];
            }
            Edge.answers("28 bases " + k, "0 " + sum / 2, MarkupsEdgeTest::withExtra, x -> x.addMarkup(50, bases),
                x -> x.markup(0));
        }
        Edge.answers("28 two halves make one", "0 1 0 1", MarkupsEdgeTest::oneCentEach, x -> x.addMarkup(50, 1),
            x -> x.addMarkup(50, 3), x -> x.markup(0), x -> x.markup(1));
    }

    /** The same costs, and 40000 cents extra: 50 LABOURs and 10 PLANTs more than are needed. */
    private static Takeoff withExtra() {
        Takeoff x = new Takeoff();
        x.addResource(Takeoff.MATERIAL, 10, 0, 1);
        x.addResource(Takeoff.LABOUR, 200, 0, 51);
        x.addResource(Takeoff.PLANT, 3000, 0, 11);
        x.addItem(0);
        for (int k = 0; k < 3; k++) {
            x.addUse(0, k, 1);
        }
        x.addLine(0);
        x.addRow(0, 'n', 1, 0, 0, 0);
        return x;
    }

    /** A MATERIAL and a LABOUR for 1 cent each. */
    private static Takeoff oneCentEach() {
        Takeoff x = cents(1);
        x.addResource(Takeoff.LABOUR, 1, 0, 1);
        x.addUse(0, 1, 1);
        return x;
    }

    /** "and mark-ups with lower numbers" */
    private static void markupOnLowerOnes() {
        Edge.answers("28 each on the one before", "0 1 2 3 500 250 125 62", () -> cents(1000),
            x -> x.addMarkup(50, 1), x -> x.addMarkup(50, 16), x -> x.addMarkup(50, 32), x -> x.addMarkup(50, 64),
            x -> x.markup(0), x -> x.markup(1), x -> x.markup(2), x -> x.markup(3));
        Edge.answers("28 each on all before", "0 1 2 3 500 750 1125 1687 5062", () -> cents(1000),
            x -> x.addMarkup(50, 1), x -> x.addMarkup(50, 17), x -> x.addMarkup(50, 49), x -> x.addMarkup(50, 113),
            x -> x.markup(0), x -> x.markup(1), x -> x.markup(2), x -> x.markup(3), x -> x.total());
        Edge.answers("28 on the first only", "0 1 2 500 750 250", () -> cents(1000), x -> x.addMarkup(50, 1),
            x -> x.addMarkup(50, 17), x -> x.addMarkup(50, 16), x -> x.markup(0), x -> x.markup(1), x -> x.markup(2));
        Edge.answers("28 a higher one's percent does not matter", "0 1 50 500 0", () -> cents(1000),
            x -> x.addMarkup(50, 1), x -> x.addMarkup(50, 16), x -> x.setPercent(1, 0), x -> x.markup(0),
            x -> x.markup(1));
    }

    private static void markupOfNothing() {
        Edge.answers("28 nothing costs anything", "0 1 0 0", Takeoff::new, x -> x.addMarkup(50, 15),
            x -> x.addMarkup(50, 31), x -> x.markup(0), x -> x.markup(1));
    }
}
