/** Promises 2 to 5: resources and crews. */
public final class ResourcesTest {
    public static void main(String[] args) {
        addResource();
        addResourceFull();
        setPrice();
        addCrew();
        addMember();
        addMemberOrder();
        Check.end();
    }

    private static void addResource() {
        Takeoff x = new Takeoff();
        int[][] wrong = {
            {-1, 0, 0, 1}, {3, 0, 0, 1}, {Integer.MIN_VALUE, 0, 0, 1}, {Integer.MAX_VALUE, 0, 0, 1},
            {0, -1, 0, 1}, {0, 10000, 0, 1}, {0, Integer.MIN_VALUE, 0, 1}, {0, Integer.MAX_VALUE, 0, 1},
            {0, 0, -1, 1}, {0, 0, 51, 1}, {0, 0, Integer.MIN_VALUE, 1}, {0, 0, Integer.MAX_VALUE, 1},
            {0, 0, 0, 0}, {0, 0, 0, -1}, {0, 0, 0, 100}, {0, 0, 0, Integer.MAX_VALUE},
        };
        for (int[] a : wrong) {
            Check.thrown("addResource " + java.util.Arrays.toString(a), IllegalArgumentException.class,
                () -> x.addResource(a[0], a[1], a[2], a[3]));
        }
        Check.due("the first, after wrong ones", 0, () -> x.addResource(Takeoff.MATERIAL, 0, 0, 1));
        Check.due("the greatest numbers", 1, () -> x.addResource(Takeoff.PLANT, 9999, 50, 99));
        Check.due("a LABOUR", 2, () -> x.addResource(Takeoff.LABOUR, 7, 3, 5));
        Check.due("its price", 7, () -> x.setPrice(2, 7));
        Check.due("the greatest price", 9999, () -> x.setPrice(1, 9999));
    }

    private static void addResourceFull() {
        Takeoff x = new Takeoff();
        for (int k = 0; k < 12; k++) {
            int number = k;
            Check.due("resource " + k, number, () -> x.addResource(0, 1, 0, 1));
        }
        Check.thrown("a 13th", IllegalStateException.class, () -> x.addResource(0, 1, 0, 1));
        Check.thrown("a wrong 13th", IllegalArgumentException.class, () -> x.addResource(3, 1, 0, 1));
        Check.thrown("resource 12", IndexOutOfBoundsException.class, () -> x.amount(12));
        Check.due("resource 11", 0, () -> x.amount(11));
    }

    private static void setPrice() {
        Takeoff x = new Takeoff();
        Check.thrown("no resource", IndexOutOfBoundsException.class, () -> x.setPrice(0, 10000));
        x.addResource(0, 5, 0, 1);
        Check.due("before", 5, () -> x.setPrice(0, 9999));
        Check.due("the greatest", 9999, () -> x.setPrice(0, 0));
        Check.due("the least", 0, () -> x.setPrice(0, 8));
        Check.thrown("10000", IllegalArgumentException.class, () -> x.setPrice(0, 10000));
        Check.thrown("-1", IllegalArgumentException.class, () -> x.setPrice(0, -1));
        Check.thrown("resource 1", IndexOutOfBoundsException.class, () -> x.setPrice(1, 5));
        Check.thrown("resource -1", IndexOutOfBoundsException.class, () -> x.setPrice(-1, 5));
        Check.due("unchanged by wrong calls", 8, () -> x.setPrice(0, 3));
        x.addItem(0);
        x.addUse(0, 0, 10);
        Check.due("the price counts", 30, () -> x.unitCost(0));
        x.setPrice(0, 4);
        Check.due("the new price counts", 40, () -> x.unitCost(0));
    }

    private static void addCrew() {
        Takeoff x = new Takeoff();
        for (int k = 0; k < 4; k++) {
            int number = k;
            Check.due("crew " + k, number, () -> x.addCrew());
        }
        Check.thrown("a fifth", IllegalStateException.class, () -> x.addCrew());
        x.addItem(0);
        Check.due("crew 3 is there", 1, () -> x.addWork(0, 3, 1));
        Check.due("and has no members", 0, () -> x.unitCost(0));
        Check.thrown("crew 4 is not", IndexOutOfBoundsException.class, () -> x.addWork(0, 4, 1));
    }

    private static void addMember() {
        Takeoff x = new Takeoff();
        x.addResource(Takeoff.MATERIAL, 1, 0, 1);
        for (int k = 0; k < 4; k++) {
            x.addResource(k % 2 == 0 ? Takeoff.LABOUR : Takeoff.PLANT, 1, 0, 1);
        }
        x.addCrew();
        x.addCrew();
        Check.due("one", 1, () -> x.addMember(0, 1, 1));
        Check.due("nine of a PLANT", 2, () -> x.addMember(0, 2, 9));
        Check.thrown("twice", IllegalStateException.class, () -> x.addMember(0, 1, 2));
        Check.due("in another crew", 1, () -> x.addMember(1, 1, 5));
        Check.due("the third", 3, () -> x.addMember(0, 3, 4));
        Check.thrown("a fourth", IllegalStateException.class, () -> x.addMember(0, 4, 1));
        x.addItem(0);
        x.addWork(0, 0, 10);
        Check.due("needed 1", 10, () -> x.needed(0, 1));
        Check.due("needed 2", 90, () -> x.needed(0, 2));
        Check.due("needed 3", 40, () -> x.needed(0, 3));
        Check.due("needed 4", 0, () -> x.needed(0, 4));
        x.addMember(1, 4, 2);
        x.addWork(0, 1, 1);
        x.addMember(1, 3, 7);
        Check.due("a member added later counts", 47, () -> x.needed(0, 3));
    }

    private static void addMemberOrder() {
        Takeoff x = new Takeoff();
        for (int k = 0; k < 5; k++) {
            x.addResource(k == 0 ? Takeoff.MATERIAL : Takeoff.LABOUR, 1, 0, 1);
        }
        x.addCrew();
        x.addMember(0, 1, 1);
        Check.thrown("crew -1", IndexOutOfBoundsException.class, () -> x.addMember(-1, 0, 0));
        Check.thrown("crew 1", IndexOutOfBoundsException.class, () -> x.addMember(1, 1, 1));
        Check.thrown("resource 5", IndexOutOfBoundsException.class, () -> x.addMember(0, 5, 0));
        Check.thrown("resource -1", IndexOutOfBoundsException.class, () -> x.addMember(0, -1, 10));
        Check.thrown("number 0", IllegalArgumentException.class, () -> x.addMember(0, 0, 0));
        Check.thrown("number 10", IllegalArgumentException.class, () -> x.addMember(0, 1, 10));
        Check.thrown("a MATERIAL", UnsupportedOperationException.class, () -> x.addMember(0, 0, 9));
        x.addMember(0, 2, 1);
        x.addMember(0, 3, 1);
        Check.thrown("a MATERIAL in a full crew", UnsupportedOperationException.class, () -> x.addMember(0, 0, 9));
        Check.thrown("number 0 in a full crew", IllegalArgumentException.class, () -> x.addMember(0, 4, 0));
        Check.thrown("a full crew", IllegalStateException.class, () -> x.addMember(0, 4, 1));
    }
}
