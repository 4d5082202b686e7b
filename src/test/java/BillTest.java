/** Promises 14 to 19: the bill. */
public final class BillTest {
    public static void main(String[] args) {
        addLine();
        shapes();
        addRowWrong();
        addRowFull();
        addRowRange();
        dropRow();
        dropRowRange();
        measure();
        quantityAndRows();
        Check.end();
    }

    private static Takeoff withLines(int count) {
        Takeoff x = new Takeoff();
        x.addItem(0);
        for (int k = 0; k < count; k++) {
            x.addLine(0);
        }
        return x;
    }

    private static void addLine() {
        Takeoff x = new Takeoff();
        Check.thrown("no item", IndexOutOfBoundsException.class, () -> x.addLine(0));
        x.addItem(0);
        Check.thrown("item 1", IndexOutOfBoundsException.class, () -> x.addLine(1));
        Check.thrown("item -1", IndexOutOfBoundsException.class, () -> x.addLine(-1));
        for (int k = 0; k < 10; k++) {
            int number = k;
            Check.due("line " + k, number, () -> x.addLine(0));
            Check.due("its quantity", 0, () -> x.quantity(number));
        }
        Check.thrown("an eleventh", IllegalStateException.class, () -> x.addLine(0));
        Check.thrown("an eleventh of no item", IndexOutOfBoundsException.class, () -> x.addLine(1));
        Check.due("no rows", 0, () -> x.rows());
    }

    private static void shapes() {
        Takeoff x = withLines(6);
        Check.due("n", 3, () -> x.addRow(0, 'n', 3, 5, 7, 11));
        Check.due("l", 15, () -> x.addRow(1, 'l', 3, 5, 7, 11));
        Check.due("r", 105, () -> x.addRow(2, 'r', 3, 5, 7, 11));
        Check.due("t, the half rounded before the times", 51, () -> x.addRow(3, 't', 3, 5, 7, 11));
        Check.due("p", 72, () -> x.addRow(4, 'p', 3, 5, 7, 11));
        Check.due("v", 1155, () -> x.addRow(5, 'v', 3, 5, 7, 11));
        Check.due("t deducted", 17, () -> x.addRow(3, 't', -2, 5, 7, 11));
        Check.due("dimensions of 0", 15, () -> x.addRow(1, 'l', 99, 0, 99, 99));
        Check.due("a greatest l", 9816, () -> x.addRow(1, 'l', 99, 99, 0, 0));
        Check.due("the rows", 9, () -> x.rows());
    }

    private static void addRowWrong() {
        Takeoff x = withLines(1);
        Check.thrown("line 1", IndexOutOfBoundsException.class, () -> x.addRow(1, 'x', 0, 0, 0, 0));
        Check.thrown("line -1", IndexOutOfBoundsException.class, () -> x.addRow(-1, 'n', 1, 0, 0, 0));
        for (char shape = 0; shape < 400; shape++) {
            char tried = shape;
            if ("nlrtpv".indexOf(shape) < 0) {
                Check.thrown("shape " + (int) shape, IllegalArgumentException.class,
                    () -> x.addRow(0, tried, 1, 1, 1, 1));
            }
        }
        Check.thrown("shape 65535", IllegalArgumentException.class, () -> x.addRow(0, '\uffff', 1, 1, 1, 1));
        Check.thrown("N", IllegalArgumentException.class, () -> x.addRow(0, 'N', 1, 1, 1, 1));
        for (int times : new int[] {-10, 0, 100, Integer.MIN_VALUE, Integer.MAX_VALUE}) {
            Check.thrown("times " + times, IllegalArgumentException.class, () -> x.addRow(0, 'n', times, 1, 1, 1));
        }
        for (int size : new int[] {-1, 100, Integer.MIN_VALUE, Integer.MAX_VALUE}) {
            Check.thrown("a " + size, IllegalArgumentException.class, () -> x.addRow(0, 'n', 1, size, 1, 1));
            Check.thrown("b " + size, IllegalArgumentException.class, () -> x.addRow(0, 'n', 1, 1, size, 1));
            Check.thrown("c " + size, IllegalArgumentException.class, () -> x.addRow(0, 'n', 1, 1, 1, size));
        }
        Check.due("no rows", 0, () -> x.rows());
        Check.due("no quantity", 0, () -> x.quantity(0));
        Check.due("the greatest times", 99, () -> x.addRow(0, 'n', 99, 99, 99, 99));
        Check.due("the least times", 90, () -> x.addRow(0, 'n', -9, 0, 0, 0));
    }

    private static void addRowFull() {
        Takeoff x = withLines(2);
        for (int k = 0; k < 40; k++) {
            x.addRow(k % 2, 'n', 1, 0, 0, 0);
        }
        Check.due("40 rows", 40, () -> x.rows());
        Check.thrown("one more", IllegalStateException.class, () -> x.addRow(0, 'n', 1, 0, 0, 0));
        Check.thrown("one more, out of range", IllegalStateException.class, () -> x.addRow(0, 'l', -9, 99, 0, 0));
        Check.thrown("one more, wrong", IllegalArgumentException.class, () -> x.addRow(0, 'x', 1, 0, 0, 0));
        Check.thrown("one more, of no line", IndexOutOfBoundsException.class, () -> x.addRow(2, 'x', 1, 0, 0, 0));
        Check.due("the quantity", 20, () -> x.quantity(0));
        Check.due("the last is dropped", 19, () -> x.dropRow(39));
        Check.due("room again", 21, () -> x.addRow(0, 'n', 1, 0, 0, 0));
    }

    private static void addRowRange() {
        Takeoff x = withLines(2);
        Check.thrown("-1", ArithmeticException.class, () -> x.addRow(0, 'n', -1, 0, 0, 0));
        Check.due("0", 0, () -> x.addRow(0, 'l', -9, 0, 5, 5));
        Check.due("9801", 9801, () -> x.addRow(0, 'r', 1, 99, 99, 0));
        Check.due("9999", 9999, () -> x.addRow(0, 'l', 2, 99, 0, 0));
        Check.thrown("10001", ArithmeticException.class, () -> x.addRow(0, 'n', 2, 0, 0, 0));
        Check.due("10000", 10000, () -> x.addRow(0, 'n', 1, 0, 0, 0));
        Check.thrown("10001 by 1", ArithmeticException.class, () -> x.addRow(0, 'n', 1, 0, 0, 0));
        Check.thrown("far too great", ArithmeticException.class, () -> x.addRow(0, 'v', 99, 99, 99, 99));
        Check.thrown("far too low", ArithmeticException.class, () -> x.addRow(0, 'v', -9, 99, 99, 99));
        Check.due("unchanged", 10000, () -> x.quantity(0));
        Check.due("unchanged", 4, () -> x.rows());
        Check.due("another line has its own quantity", 99, () -> x.addRow(1, 'n', 99, 0, 0, 0));
        Check.due("down to 0", 0, () -> x.addRow(1, 'l', -9, 11, 0, 0));
    }

    private static void dropRow() {
        Takeoff x = withLines(2);
        Check.thrown("no row", IndexOutOfBoundsException.class, () -> x.dropRow(0));
        x.addRow(0, 'n', 10, 0, 0, 0);
        x.addRow(1, 'n', 20, 0, 0, 0);
        x.addRow(0, 'n', 30, 0, 0, 0);
        x.addRow(1, 'n', 40, 0, 0, 0);
        Check.thrown("row 4", IndexOutOfBoundsException.class, () -> x.dropRow(4));
        Check.thrown("row -1", IndexOutOfBoundsException.class, () -> x.dropRow(-1));
        Check.due("its line's quantity", 40, () -> x.dropRow(1));
        Check.due("three rows", 3, () -> x.rows());
        Check.due("row 0 stays", 10, () -> x.measure(0));
        Check.due("row 2 is row 1", 30, () -> x.measure(1));
        Check.due("row 3 is row 2", 40, () -> x.measure(2));
        Check.thrown("row 3 is no more", IndexOutOfBoundsException.class, () -> x.dropRow(3));
        Check.due("a new row is the last", 41, () -> x.addRow(1, 'n', 1, 0, 0, 0));
        Check.due("its number", 1, () -> x.measure(3));
        Check.due("row 0", 30, () -> x.dropRow(0));
        Check.due("row 0 again, that was row 2", 0, () -> x.dropRow(0));
        Check.due("the other line", 41, () -> x.quantity(1));
        Check.due("row 0 is of the other line", 1, () -> x.dropRow(0));
        Check.due("the last", 0, () -> x.dropRow(0));
        Check.due("none", 0, () -> x.rows());
    }

    private static void dropRowRange() {
        Takeoff x = withLines(1);
        x.addRow(0, 'n', 5, 0, 0, 0);
        x.addRow(0, 'n', -4, 0, 0, 0);
        Check.thrown("less than 0", ArithmeticException.class, () -> x.dropRow(0));
        Check.due("unchanged", 1, () -> x.quantity(0));
        Check.due("unchanged", 5, () -> x.measure(0));
        Check.due("unchanged", 2, () -> x.rows());
        x.addRow(0, 'r', 1, 99, 99, 0);
        Check.due("10000", 10000, () -> x.addRow(0, 'l', 2, 99, 0, 0));
        Check.thrown("greater than 10000", ArithmeticException.class, () -> x.dropRow(1));
        Check.due("unchanged", 10000, () -> x.quantity(0));
        Check.due("unchanged", -4, () -> x.measure(1));
        Check.due("a row that can go", 9802, () -> x.dropRow(3));
        Check.due("the deducted one after it", 9806, () -> x.dropRow(1));
        Check.thrown("no row 2", IndexOutOfBoundsException.class, () -> x.dropRow(2));
    }

    private static void measure() {
        Takeoff x = withLines(2);
        Check.thrown("no row", IndexOutOfBoundsException.class, () -> x.measure(0));
        x.addRow(0, 'v', 2, 3, 4, 5);
        x.addRow(1, 'p', 1, 3, 4, 5);
        x.addRow(0, 't', -3, 3, 5, 9);
        Check.due("v", 120, () -> x.measure(0));
        Check.due("p", 14, () -> x.measure(1));
        Check.due("less than 0", -21, () -> x.measure(2));
        Check.thrown("row 3", IndexOutOfBoundsException.class, () -> x.measure(3));
        Check.thrown("row -1", IndexOutOfBoundsException.class, () -> x.measure(-1));
    }

    private static void quantityAndRows() {
        Takeoff x = withLines(2);
        Check.thrown("line 2", IndexOutOfBoundsException.class, () -> x.quantity(2));
        Check.thrown("line -1", IndexOutOfBoundsException.class, () -> x.quantity(-1));
        Check.due("no rows", 0, () -> x.quantity(0));
        x.addRow(0, 'n', 7, 0, 0, 0);
        x.addRow(1, 'n', 9, 0, 0, 0);
        x.addRow(0, 'n', -2, 0, 0, 0);
        Check.due("the sum of its rows", 5, () -> x.quantity(0));
        Check.due("the sum of the other's", 9, () -> x.quantity(1));
        Check.due("all rows together", 3, () -> x.rows());
        x.dropRow(2);
        Check.due("one less", 2, () -> x.rows());
        Check.due("without it", 7, () -> x.quantity(0));
    }
}
