/** Promises 26 to 28: mark-ups. */
public final class MarkupsTest {
    public static void main(String[] args) {
        addMarkup();
        addMarkupWrong();
        setPercent();
        markup();
        singleBases();
        Check.end();
    }

    /** One unit of a MATERIAL for 101, a LABOUR for 37 and a PLANT for 53, of which 9 more are bought. */
    private static Takeoff oneOfEach() {
        Takeoff x = new Takeoff();
        x.addResource(Takeoff.MATERIAL, 101, 0, 1);
        x.addResource(Takeoff.LABOUR, 37, 0, 1);
        x.addResource(Takeoff.PLANT, 53, 0, 10);
        x.addItem(0);
        for (int k = 0; k < 3; k++) {
            x.addUse(0, k, 1);
        }
        x.addLine(0);
        x.addRow(0, 'n', 1, 0, 0, 0);
        return x;
    }

    private static void addMarkup() {
        Takeoff x = oneOfEach();
        Check.due("all that there is", 0, () -> x.addMarkup(50, 15));
        Check.due("with the mark-up before", 1, () -> x.addMarkup(0, 31));
        Check.due("with two", 2, () -> x.addMarkup(1, 63));
        Check.due("with three", 3, () -> x.addMarkup(2, 127));
        Check.thrown("a fifth", IllegalStateException.class, () -> x.addMarkup(0, 0));
        Check.thrown("a wrong fifth", IllegalStateException.class, () -> x.addMarkup(51, 0));
        Check.thrown("a fifth with a wrong bit", IllegalStateException.class, () -> x.addMarkup(0, -1));
        Check.thrown("mark-up 4", IndexOutOfBoundsException.class, () -> x.markup(4));
    }

    private static void addMarkupWrong() {
        Takeoff x = oneOfEach();
        for (int percent : new int[] {-1, 51, Integer.MIN_VALUE, Integer.MAX_VALUE}) {
            Check.thrown("percent " + percent, IllegalArgumentException.class, () -> x.addMarkup(percent, 1));
        }
        for (int number = 0; number < 4; number++) {
            for (int bit = 4 + number; bit < 32; bit++) {
                int bases = 1 << bit | 1;
                Check.thrown(number + " with bit " + bit, IllegalArgumentException.class, () -> x.addMarkup(1, bases));
            }
            Check.thrown(number + " with all bits", IllegalArgumentException.class, () -> x.addMarkup(1, -1));
            int made = number;
            Check.due("a mark-up of nothing", made, () -> x.addMarkup(50, 0));
            Check.due("is 0", 0, () -> x.markup(made));
        }
        Check.due("the total", 668, () -> x.total());
    }

    private static void setPercent() {
        Takeoff x = oneOfEach();
        Check.thrown("no mark-up", IndexOutOfBoundsException.class, () -> x.setPercent(0, 51));
        x.addMarkup(10, 1);
        Check.thrown("mark-up 1", IndexOutOfBoundsException.class, () -> x.setPercent(1, 1));
        Check.thrown("mark-up -1", IndexOutOfBoundsException.class, () -> x.setPercent(-1, 1));
        Check.thrown("51", IllegalArgumentException.class, () -> x.setPercent(0, 51));
        Check.thrown("-1", IllegalArgumentException.class, () -> x.setPercent(0, -1));
        Check.due("as before", 10, () -> x.markup(0));
        Check.due("10 before", 10, () -> x.setPercent(0, 50));
        Check.due("50 percent, rounded down", 50, () -> x.markup(0));
        Check.due("50 before", 50, () -> x.setPercent(0, 0));
        Check.due("0 percent", 0, () -> x.markup(0));
        Check.due("0 before", 0, () -> x.setPercent(0, 3));
    }

    private static void markup() {
        Takeoff x = oneOfEach();
        Check.thrown("no mark-up", IndexOutOfBoundsException.class, () -> x.markup(0));
        x.addMarkup(10, 1);
        x.addMarkup(50, 2 + 16);
        x.addMarkup(50, 8 + 16 + 32);
        x.addMarkup(33, 127);
        Check.thrown("mark-up -1", IndexOutOfBoundsException.class, () -> x.markup(-1));
        Check.due("of 101", 10, () -> x.markup(0));
        Check.due("of 37 and 10", 23, () -> x.markup(1));
        Check.due("of 477 and 10 and 23", 255, () -> x.markup(2));
        Check.due("of all", 315, () -> x.markup(3));
        Check.due("the total", 1271, () -> x.total());
        x.setPercent(0, 0);
        Check.due("0", 0, () -> x.markup(0));
        Check.due("of 37 and 0", 18, () -> x.markup(1));
        Check.due("of 477 and 0 and 18", 247, () -> x.markup(2));
        Check.due("of all", 307, () -> x.markup(3));
        Check.due("the total", 1240, () -> x.total());
    }

    private static void singleBases() {
        long[] due = {50, 18, 26, 238};
        for (int bit = 0; bit < 4; bit++) {
            Takeoff x = oneOfEach();
            x.addMarkup(50, 1 << bit);
            long want = due[bit];
            Check.due("bit " + bit, want, () -> x.markup(0));
            x.addMarkup(50, 16);
            x.addMarkup(50, 32);
            x.addMarkup(50, 64);
            Check.due("half of it", want / 2, () -> x.markup(1));
            Check.due("half of that", want / 4, () -> x.markup(2));
            Check.due("half of that again", want / 8, () -> x.markup(3));
        }
    }
}
