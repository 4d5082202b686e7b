import java.util.function.Supplier;

/** Boundary cases of promises 14 to 19: the bill. Each comment quotes the sentence that is tested. */
public final class BillEdgeTest {
    private static final String SHAPES = "nlrtpv";

    public static void main(String[] args) {
        addLineItem();
        addLineWithoutRows();
        addLineTen();
        addLineOrder();
        addRowLine();
        addRowShape();
        addRowTimes();
        addRowDimensions();
        addRowForty();
        addRowLessThanZero();
        addRowGreaterThanMost();
        addRowNumber();
        addRowOrder();
        dropRowNumber();
        dropRowLessThanZero();
        dropRowGreaterThanMost();
        dropRowNumbersBehind();
        dropRowFirstAndLast();
        measureRow();
        measureShapes();
        measureDimensionsThatDoNotOccur();
        measureHalfRoundedDown();
        measureDeducted();
        measureLeastAndGreatest();
        quantityLine();
        quantityOfNoRows();
        quantityIsTheSum();
        rowsNoneToForty();
        Check.end();
    }

    /** An item and so many lines of it. */
    private static Takeoff lines(int count) {
        Takeoff x = new Takeoff();
        x.addItem(0);
        for (int k = 0; k < count; k++) {
            x.addLine(0);
        }
        return x;
    }

    /** Two lines, and rows for one unit each that are of one and the other line in turn. */
    private static Takeoff rows(int count) {
        Takeoff x = lines(2);
        for (int k = 0; k < count; k++) {
            x.addRow(k % 2, 'n', 1, 0, 0, 0);
        }
        return x;
    }

    /** Two lines, the first of which has some units. */
    private static Takeoff quantity(int units) {
        Takeoff x = lines(2);
        Houses.measure(x, 0, units);
        return x;
    }

    // ---- promise 14

    /** "Throws IndexOutOfBoundsException if there is no such item" */
    private static void addLineItem() {
        Edge.numbers("14 no items", 0, Takeoff::new, (x, item) -> x.addLine(item));
        Edge.numbers("14 item", 5, Houses::some, (x, item) -> x.addLine(item));
        Edge.numbers("14 item of 12", 12, BillEdgeTest::twelveItems, (x, item) -> x.addLine(item));
    }

    private static Takeoff twelveItems() {
        Takeoff x = new Takeoff();
        for (int k = 0; k < 12; k++) {
            x.addItem(0);
        }
        return x;
    }

    /** "Adds a line without rows to the bill." */
    private static void addLineWithoutRows() {
        Edge.answers("14 a line without rows", "1 0 0 0", () -> lines(1), x -> x.addLine(0), x -> x.quantity(1),
            x -> x.costOfLine(1), x -> x.rows());
    }

    /** "At most 10 lines exist, numbered from 0" "Throws IllegalStateException if there are 10 lines" */
    private static void addLineTen() {
        Edge.answer("14 the first", 0, () -> lines(0), x -> x.addLine(0));
        Edge.answer("14 the tenth", 9, () -> lines(9), x -> x.addLine(0));
        Edge.refused("14 an eleventh", Edge.STATE, () -> lines(10), x -> x.addLine(0));
        Edge.refused("14 an eleventh where all is full", Edge.STATE, Houses::full, x -> x.addLine(11));
        Edge.answers("14 a refused one takes no number", "throws IndexOutOfBoundsException 4", Houses::some,
            x -> x.addLine(5), x -> x.addLine(0));
    }

    private static void addLineOrder() {
        Edge.refused("14 item before full", Edge.BOUNDS, Houses::full, x -> x.addLine(12));
        Edge.refused("14 item -1 before full", Edge.BOUNDS, Houses::full, x -> x.addLine(-1));
    }

    // ---- promise 15

    /** "Throws IndexOutOfBoundsException if there is no such line" */
    private static void addRowLine() {
        Edge.numbers("15 no lines", 0, () -> lines(0), (x, line) -> x.addRow(line, 'n', 1, 0, 0, 0));
        Edge.numbers("15 line", 4, Houses::some, (x, line) -> x.addRow(line, 'n', 1, 0, 0, 0));
        Edge.numbers("15 line of 10", 10, () -> lines(10), (x, line) -> x.addRow(line, 'n', 1, 0, 0, 0));
    }

    /** "Throws IllegalArgumentException if there is no such shape" */
    private static void addRowShape() {
        Takeoff tried = lines(1);
        for (int k = 0; k <= Character.MAX_VALUE; k++) {
            char shape = (char) k;
            if (SHAPES.indexOf(shape) >= 0) {
                Edge.taken("15 shape " + k, () -> lines(1), x -> x.addRow(0, shape, 1, 1, 1, 1));
            } else {
                Check.thrown("15 shape " + k, Edge.ARGUMENT, () -> tried.addRow(0, shape, 1, 1, 1, 1));
            }
        }
        for (char shape : "kmoqsuwNLRTPV 01\0\u016e\uffff".toCharArray()) {
            Edge.refused("15 shape " + (int) shape, Edge.ARGUMENT, Houses::some, x -> x.addRow(0, shape, 1, 1, 1, 1));
        }
    }

    /** "times: the times, -9 to 99, but not 0" */
    private static void addRowTimes() {
        for (char shape : SHAPES.toCharArray()) {
            Edge.range("15 times of " + shape, -9, 99, Edge.ARGUMENT, () -> quantity(5000),
                (x, times) -> x.addRow(0, shape, times, 1, 2, 1));
            Edge.refused("15 times 0 of " + shape, Edge.ARGUMENT, () -> quantity(5000),
                x -> x.addRow(0, shape, 0, 1, 2, 1));
        }
        Edge.answers("15 times that count", "4991 5090 5089 5090", () -> quantity(5000),
            x -> x.addRow(0, 'n', -9, 0, 0, 0), x -> x.addRow(0, 'n', 99, 0, 0, 0),
            x -> x.addRow(0, 'n', -1, 0, 0, 0), x -> x.addRow(0, 'n', 1, 0, 0, 0));
    }

    /** "the first dimension, 0 to 99", "the second ..", "the third ..": also one that the shape does not use */
    private static void addRowDimensions() {
        for (char shape : SHAPES.toCharArray()) {
            Edge.range("15 a of " + shape, 0, 99, Edge.ARGUMENT, () -> lines(1),
                (x, a) -> x.addRow(0, shape, 1, a, 1, 1));
            Edge.range("15 b of " + shape, 0, 99, Edge.ARGUMENT, () -> lines(1),
                (x, b) -> x.addRow(0, shape, 1, 1, b, 1));
            Edge.range("15 c of " + shape, 0, 99, Edge.ARGUMENT, () -> lines(1),
                (x, c) -> x.addRow(0, shape, 1, 1, 1, c));
        }
    }

    /** "At most 40 rows exist .. for all lines together" "Throws IllegalStateException if there are 40 rows" */
    private static void addRowForty() {
        Edge.answers("15 the 40th", "20 40", () -> rows(39), x -> x.addRow(1, 'n', 1, 0, 0, 0), x -> x.rows());
        Edge.refused("15 a 41st", Edge.STATE, () -> rows(40), x -> x.addRow(0, 'n', 1, 0, 0, 0));
        Edge.refused("15 a 41st of the other line", Edge.STATE, () -> rows(40), x -> x.addRow(1, 'n', 1, 0, 0, 0));
        Edge.refused("15 a 41st where all is full", Edge.STATE, Houses::full, x -> x.addRow(9, 'n', 1, 0, 0, 0));
        Edge.answers("15 room again", "19 20 throws IllegalStateException", () -> rows(40), x -> x.dropRow(39),
            x -> x.addRow(1, 'n', 1, 0, 0, 0), x -> x.addRow(1, 'n', 1, 0, 0, 0));
    }

    /** "The quantity of a line is never less than 0" */
    private static void addRowLessThanZero() {
        Edge.answer("15 down to 0", 0, () -> quantity(9), x -> x.addRow(0, 'n', -9, 0, 0, 0));
        Edge.refused("15 down to -1", Edge.ARITHMETIC, () -> quantity(8), x -> x.addRow(0, 'n', -9, 0, 0, 0));
        Edge.refused("15 a first row below 0", Edge.ARITHMETIC, () -> quantity(0), x -> x.addRow(0, 'n', -1, 0, 0, 0));
        Edge.answer("15 a first row of 0", 0, () -> quantity(0), x -> x.addRow(0, 'l', -9, 0, 0, 0));
        Edge.refused("15 another line's units don't help", Edge.ARITHMETIC, () -> quantity(9),
            x -> x.addRow(1, 'n', -1, 0, 0, 0));
        Edge.refused("15 far below 0", Edge.ARITHMETIC, () -> quantity(10000), x -> x.addRow(0, 'v', -9, 99, 99, 99));
        Edge.answer("15 from 10000 to 0", 0, () -> quantity(10000), x -> x.addRow(0, 'v', -8, 25, 25, 2));
        Edge.refused("15 from 10000 to -5", Edge.ARITHMETIC, () -> quantity(10000),
            x -> x.addRow(0, 'r', -5, 69, 29, 0));
    }

    /** "and never greater than 10000" */
    private static void addRowGreaterThanMost() {
        Edge.answer("15 up to 10000", 10000, () -> quantity(9901), x -> x.addRow(0, 'n', 99, 0, 0, 0));
        Edge.refused("15 up to 10001", Edge.ARITHMETIC, () -> quantity(9902), x -> x.addRow(0, 'n', 99, 0, 0, 0));
        Edge.answer("15 a first row of 10000", 10000, () -> quantity(0), x -> x.addRow(0, 'v', 1, 50, 20, 10));
        Edge.refused("15 a row of 10000 behind one of 1", Edge.ARITHMETIC, () -> quantity(1),
            x -> x.addRow(0, 'v', 1, 50, 20, 10));
        Edge.refused("15 a first row of 10004", Edge.ARITHMETIC, () -> quantity(0),
            x -> x.addRow(0, 'r', 4, 41, 61, 0));
        Edge.answer("15 a row of 0 at 10000", 10000, () -> quantity(10000), x -> x.addRow(0, 'l', 99, 0, 99, 99));
        Edge.answer("15 another line has its own", 99, () -> quantity(10000), x -> x.addRow(1, 'n', 99, 0, 0, 0));
        Edge.refused("15 the greatest row of all", Edge.ARITHMETIC, () -> quantity(0),
            x -> x.addRow(0, 'v', 99, 99, 99, 99));
    }

    /** "Adds a row to a line; its number is the greatest of all rows." */
    private static void addRowNumber() {
        Edge.answers("15 the greatest number", "7 4 6", () -> rows(3), x -> x.addRow(1, 'n', 6, 0, 0, 0),
            x -> x.rows(), x -> x.measure(3));
        Edge.answers("15 the greatest number behind a dropped one", "1 8 1 7", () -> rows(3), x -> x.dropRow(0),
            x -> x.addRow(0, 'n', 7, 0, 0, 0), x -> x.measure(1), x -> x.measure(2));
    }

    private static void addRowOrder() {
        Supplier<Takeoff> full = Houses::full;
        Edge.refused("15 line before shape", Edge.BOUNDS, Houses::some, x -> x.addRow(4, 'x', 1, 0, 0, 0));
        Edge.refused("15 line before times", Edge.BOUNDS, Houses::some, x -> x.addRow(-1, 'n', 0, 0, 0, 0));
        Edge.refused("15 line before dimension", Edge.BOUNDS, Houses::some, x -> x.addRow(4, 'n', 1, 100, -1, 0));
        Edge.refused("15 line before full", Edge.BOUNDS, full, x -> x.addRow(10, 'n', 1, 0, 0, 0));
        Edge.refused("15 line before quantity", Edge.BOUNDS, Houses::some, x -> x.addRow(4, 'v', 99, 99, 99, 99));
        Edge.refused("15 shape before full", Edge.ARGUMENT, full, x -> x.addRow(0, 'x', 1, 0, 0, 0));
        Edge.refused("15 times before full", Edge.ARGUMENT, full, x -> x.addRow(0, 'n', 0, 0, 0, 0));
        Edge.refused("15 a before full", Edge.ARGUMENT, full, x -> x.addRow(0, 'n', 1, -1, 0, 0));
        Edge.refused("15 b before full", Edge.ARGUMENT, full, x -> x.addRow(0, 'n', 1, 0, 100, 0));
        Edge.refused("15 c before full", Edge.ARGUMENT, full, x -> x.addRow(0, 'n', 1, 0, 0, 100));
        Edge.refused("15 shape before quantity", Edge.ARGUMENT, Houses::some, x -> x.addRow(3, 'x', -1, 99, 99, 99));
        Edge.refused("15 times before quantity", Edge.ARGUMENT, Houses::some, x -> x.addRow(3, 'n', -10, 0, 0, 0));
        Edge.refused("15 dimension before quantity", Edge.ARGUMENT, Houses::some,
            x -> x.addRow(3, 'r', 99, 100, 100, 0));
        Edge.refused("15 full before less than 0", Edge.STATE, full, x -> x.addRow(0, 'v', -9, 99, 99, 99));
        Edge.refused("15 full before greater than 10000", Edge.STATE, full, x -> x.addRow(0, 'v', 99, 99, 99, 99));
    }

    // ---- promise 16

    /** "Throws IndexOutOfBoundsException if there is no such row" */
    private static void dropRowNumber() {
        Edge.numbers("16 no rows", 0, () -> rows(0), (x, row) -> x.dropRow(row));
        Edge.numbers("16 one row", 1, () -> rows(1), (x, row) -> x.dropRow(row));
        Edge.numbers("16 row of 40", 40, () -> rows(40), (x, row) -> x.dropRow(row));
        Edge.numbers("16 row where all is full", 40, Houses::full, (x, row) -> x.dropRow(row));
    }

    /** A line with a row of so many units and one of 9 less than none. */
    private static Takeoff deducted(int units) {
        Takeoff x = lines(1);
        x.addRow(0, 'n', 50, 0, 0, 0);
        x.addRow(0, 'n', -9, 0, 0, 0);
        x.addRow(0, 'n', units, 0, 0, 0);
        return x;
    }

    /** "Throws ArithmeticException if the quantity of the line would be less than 0" */
    private static void dropRowLessThanZero() {
        Edge.answers("16 down to 0", "0 2 -9", () -> deducted(9), x -> x.dropRow(0), x -> x.rows(), x -> x.measure(0));
        Edge.refused("16 down to -1", Edge.ARITHMETIC, () -> deducted(8), x -> x.dropRow(0));
        Edge.answers("16 possible in another order", "throws ArithmeticException 58 8", () -> deducted(8),
            x -> x.dropRow(0), x -> x.dropRow(1), x -> x.dropRow(0));
    }

    /** Row 0 is of line 1; rows 1 and 2 of line 0 are for 1 and for -1, those behind them for its quantity. */
    private static Takeoff great(int units) {
        Takeoff x = lines(2);
        x.addRow(1, 'n', 5, 0, 0, 0);
        x.addRow(0, 'n', 1, 0, 0, 0);
        x.addRow(0, 'n', -1, 0, 0, 0);
        Houses.measure(x, 0, units);
        return x;
    }

    /** "or greater than 10000" */
    private static void dropRowGreaterThanMost() {
        Edge.answers("16 up to 10000", "9999 10000 10000", () -> great(9999), x -> x.quantity(0), x -> x.dropRow(2),
            x -> x.quantity(0));
        Edge.refused("16 up to 10001", Edge.ARITHMETIC, () -> great(10000), x -> x.dropRow(2));
        Edge.answers("16 another line's quantity does not matter", "0 10000", () -> great(10000),
            x -> x.dropRow(0), x -> x.quantity(0));
    }

    /** "Drops a row; those behind it get numbers that are lower by 1." */
    private static void dropRowNumbersBehind() {
        Edge.answers("16 the numbers behind", "0 10 20 40 throws IndexOutOfBoundsException 3",
            BillEdgeTest::fourRows, x -> x.dropRow(2), x -> x.measure(0), x -> x.measure(1), x -> x.measure(2),
            x -> x.measure(3), x -> x.rows());
        Edge.answers("16 they keep their lines", "60 0 60", BillEdgeTest::fourRows, x -> x.dropRow(0), x -> x.dropRow(1),
            x -> x.quantity(0));
    }

    /** Rows of 10, 20, 30 and 40 units; the third is of line 1, the others of line 0. */
    private static Takeoff fourRows() {
        Takeoff x = lines(2);
        for (int k = 0; k < 4; k++) {
            x.addRow(k == 2 ? 1 : 0, 'n', 10 + 10 * k, 0, 0, 0);
        }
        return x;
    }

    private static void dropRowFirstAndLast() {
        Edge.answers("16 the first", "60 20 30 40", BillEdgeTest::fourRows, x -> x.dropRow(0), x -> x.measure(0),
            x -> x.measure(1), x -> x.measure(2));
        Edge.answers("16 the last", "30 10 20 30", BillEdgeTest::fourRows, x -> x.dropRow(3), x -> x.measure(0),
            x -> x.measure(1), x -> x.measure(2));
        Edge.answers("16 the only one", "0 0 throws IndexOutOfBoundsException", () -> rows(1), x -> x.dropRow(0),
            x -> x.rows(), x -> x.dropRow(0));
    }

    // ---- promise 17

    /** "Throws IndexOutOfBoundsException if there is no such row" */
    private static void measureRow() {
        Edge.numbers("17 no rows", 0, () -> rows(0), (x, row) -> x.measure(row));
        Edge.numbers("17 row", 5, Houses::some, (x, row) -> x.measure(row));
        Edge.numbers("17 row of 40", 40, Houses::full, (x, row) -> x.measure(row));
        Edge.asks("17 asks only", Houses::some, x -> x.measure(2));
    }

    private static void measured(String what, int due, char shape, int times, int a, int b, int c) {
        Edge.answer("17 " + what + " " + shape, due, () -> quantity(5000), x -> {
            x.addRow(0, shape, times, a, b, c);
            return x.measure(x.rows() - 1);
        });
    }

    /** "1 for the shape 'n', by a for 'l', by a times b for 'r', .. by 2 times the sum of a and b for 'p', .." */
    private static void measureShapes() {
        measuredInAll("the same times", 2, new int[] {2, 10, 70, 34, 48, 630}, 5, 7, 9);
        measuredInAll("deducted", -1, new int[] {-1, -5, -35, -17, -24, -315}, 5, 7, 9);
        measuredInAll("all dimensions 0", 9, new int[] {9, 0, 0, 0, 0, 0}, 0, 0, 0);
        measuredInAll("a 0", 1, new int[] {1, 0, 0, 0, 14, 0}, 0, 7, 9);
        measuredInAll("b 0", 1, new int[] {1, 5, 0, 0, 10, 0}, 5, 0, 9);
        measuredInAll("c 0", 1, new int[] {1, 5, 35, 17, 24, 0}, 5, 7, 0);
    }

    private static void measuredInAll(String what, int times, int[] dues, int a, int b, int c) {
        for (int k = 0; k < 6; k++) {
            measured(what, dues[k], SHAPES.charAt(k), times, a, b, c);
        }
    }

    /** "dimensions that do not occur here do not matter" */
    private static void measureDimensionsThatDoNotOccur() {
        for (int other : new int[] {0, 1, 99}) {
            measured("whatever a, b and c are", 3, 'n', 3, other, other, other);
            measured("whatever b and c are", 15, 'l', 3, 5, other, other);
            measured("whatever c is", 105, 'r', 3, 5, 7, other);
            measured("whatever c is", 51, 't', 3, 5, 7, other);
            measured("whatever c is", 72, 'p', 3, 5, 7, other);
        }
    }

    /** "by the half of a times b, rounded down, for 't'" */
    private static void measureHalfRoundedDown() {
        measured("a half of 0", 0, 't', 99, 0, 99, 0);
        measured("a half of 1", 0, 't', 99, 1, 1, 0);
        measured("a half of 2", 99, 't', 99, 1, 2, 0);
        measured("a half of 3", 99, 't', 99, 1, 3, 0);
        measured("a half of 9801", 4900, 't', 1, 99, 99, 0);
        measured("deducted, a half of 1", 0, 't', -9, 1, 1, 0);
        measured("deducted, a half of 3", -9, 't', -9, 3, 1, 0);
        measured("deducted, a half of 9", -4, 't', -1, 3, 3, 0);
    }

    /** "A row with times less than 0 is deducted." */
    private static void measureDeducted() {
        Edge.answers("17 deducted", "5000 4991 -9", () -> quantity(5000), x -> x.quantity(0),
            x -> x.addRow(0, 'n', -9, 0, 0, 0), x -> x.measure(x.rows() - 1));
    }

    private static void measureLeastAndGreatest() {
        Edge.answers("17 the greatest and the least", "10000 10000 0 -10000", () -> quantity(0),
            x -> x.addRow(0, 'v', 1, 50, 20, 10), x -> x.measure(0), x -> x.addRow(0, 'v', -5, 50, 40, 1),
            x -> x.measure(1));
    }

    // ---- promise 18

    /** "Throws IndexOutOfBoundsException if there is no such line" */
    private static void quantityLine() {
        Edge.numbers("18 no lines", 0, () -> lines(0), (x, line) -> x.quantity(line));
        Edge.numbers("18 line", 4, Houses::some, (x, line) -> x.quantity(line));
        Edge.numbers("18 line of 10", 10, Houses::full, (x, line) -> x.quantity(line));
        Edge.asks("18 asks only", Houses::some, x -> x.quantity(0));
    }

    private static void quantityOfNoRows() {
        Edge.answer("18 no rows", 0, () -> lines(1), x -> x.quantity(0));
        Edge.answers("18 no rows any more", "0 0", () -> rows(1), x -> x.dropRow(0), x -> x.quantity(0));
        Edge.answer("18 rows of another line only", 0, () -> rows(1), x -> x.quantity(1));
    }

    /** "a quantity, which is the sum of its rows" */
    private static void quantityIsTheSum() {
        Edge.answer("18 the greatest", 10000, () -> quantity(10000), x -> x.quantity(0));
        Edge.answers("18 all 40 rows", "20 20", () -> rows(40), x -> x.quantity(0), x -> x.quantity(1));
        Edge.answers("18 with deducted ones", "41 50", () -> lines(1), x -> {
            x.addRow(0, 'n', 50, 0, 0, 0);
            x.addRow(0, 'n', -9, 0, 0, 0);
            return x.quantity(0);
        }, x -> x.dropRow(1));
    }

    // ---- promise 19

    private static void rowsNoneToForty() {
        Edge.answer("19 none", 0, Takeoff::new, x -> x.rows());
        Edge.answer("19 one", 1, () -> rows(1), x -> x.rows());
        Edge.answer("19 forty, of all lines together", 40, () -> rows(40), x -> x.rows());
        Edge.answers("19 one less", "19 39", () -> rows(40), x -> x.dropRow(0), x -> x.rows());
        Edge.answers("19 not one more by a refused one", "throws IllegalStateException 40", () -> rows(40),
            x -> x.addRow(0, 'n', 1, 0, 0, 0), x -> x.rows());
        Edge.asks("19 asks only", Houses::some, x -> x.rows());
    }
}
