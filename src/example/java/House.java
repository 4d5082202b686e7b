import java.util.NoSuchElementException;

/** A house of brick walls, or of block walls, whichever costs less. */
public final class House {
    public static void main(String[] args) {
        Takeoff house = new Takeoff();

        // Kind, price of one unit in cents, waste in percent, pack size.
        int brick = house.addResource(Takeoff.MATERIAL, 50, 10, 90);
        int block = house.addResource(Takeoff.MATERIAL, 180, 5, 40);
        int mason = house.addResource(Takeoff.LABOUR, 60, 0, 1);
        int mixer = house.addResource(Takeoff.PLANT, 15, 0, 1);
        int masons = house.addCrew();
        house.addMember(masons, mason, 2);
        house.addMember(masons, mixer, 1);

        // What one unit of each item is made of; a house is made of 4 walls.
        int brickWall = house.addItem(1);
        house.addUse(brickWall, brick, 48);
        house.addWork(brickWall, masons, 30);
        int blockWall = house.addItem(1);
        house.addUse(blockWall, block, 12);
        house.addWork(blockWall, masons, 15);
        int walls = house.addItem(0);
        house.addPart(walls, brickWall, 4);

        // Two houses of 3 by 5, less an opening of 1 by 2.
        int line = house.addLine(walls);
        house.addRow(line, 'r', 2, 3, 5, 0);
        house.addRow(line, 'r', -1, 1, 2, 0);

        // 10 percent on materials and labour (bits 0 and 1), 5 percent on that mark-up and the extra cost (4 and 3).
        house.addMarkup(10, 1 + 2);
        house.addMarkup(5, 8 + 16);

        System.out.println("quantity " + house.quantity(line) + ", bricks " + house.amount(brick)
            + " in packs " + house.packs(brick));
        System.out.println("net " + house.net() + " + extra " + house.extra() + " + mark-ups "
            + house.markup(0) + " and " + house.markup(1) + " = total " + house.total());

        int ofBlocks = house.addVariant();
        house.replaceItem(ofBlocks, brickWall, blockWall);
        System.out.println("difference with blocks " + house.difference(ofBlocks)
            + ", cheapest set of variants " + house.cheapestVariants());
        house.turn(ofBlocks, true);
        System.out.println("total with blocks " + house.total() + ", dearest resource " + house.dearest(0)
            + ", share of labour " + house.share(Takeoff.LABOUR));

        refusals(house, walls, line);
        System.out.println("total as before " + house.total());
    }

    /** One call for each exception; none of them changes the house. */
    private static void refusals(Takeoff house, int walls, int line) {
        try {
            house.unitCost(99);
        } catch (IndexOutOfBoundsException e) {
            System.out.println("there is no item 99");
        }
        try {
            house.addRow(line, 'x', 1, 0, 0, 0);
        } catch (IllegalArgumentException e) {
            System.out.println("there is no shape x");
        }
        try {
            house.replaceItem(0, walls, 0);
        } catch (IllegalStateException e) {
            System.out.println("what a variant replaces is not changed while it is on");
        }
        try {
            house.addPart(walls, walls, 1);
        } catch (UnsupportedOperationException e) {
            System.out.println("an item can't need itself");
        }
        try {
            house.dropRow(0);
        } catch (ArithmeticException e) {
            System.out.println("without row 0 the quantity would be less than 0");
        }
        try {
            house.dearest(12);
        } catch (NoSuchElementException e) {
            System.out.println("there are no 13 resources that cost anything");
        }
    }
}
