/** Buildings for the boundary cases. */
final class Houses {
    private Houses() {
    }

    /** Some of everything and room for more: 5 resources, 2 crews, 5 items, 4 lines, 5 rows, 2 variants, 2 mark-ups. */
    static Takeoff some() {
        Takeoff x = new Takeoff();
        x.addResource(Takeoff.MATERIAL, 20, 7, 6);
        x.addResource(Takeoff.LABOUR, 45, 0, 60);
        x.addResource(Takeoff.PLANT, 8, 50, 1);
        x.addResource(Takeoff.MATERIAL, 13, 10, 5);
        x.addResource(Takeoff.LABOUR, 31, 3, 9);
        x.addCrew();
        x.addMember(0, 1, 2);
        x.addMember(0, 2, 1);
        x.addCrew();
        x.addMember(1, 4, 3);
        for (int trade : new int[] {4, 2, 0, 5, 1}) {
            x.addItem(trade);
        }
        x.addUse(0, 0, 3);
        x.addWork(0, 0, 10);
        x.addPart(1, 0, 2);
        x.addUse(1, 3, 5);
        x.addPart(2, 1, 1);
        x.addWork(2, 1, 7);
        x.addUse(3, 3, 1);
        for (int item : new int[] {2, 0, 3, 4}) {
            x.addLine(item);
        }
        x.addRow(0, 'n', 3, 0, 0, 0);
        x.addRow(1, 'l', 2, 2, 0, 0);
        x.addRow(0, 'n', -1, 0, 0, 0);
        x.addRow(2, 'r', 1, 3, 5, 0);
        x.addRow(2, 'n', -2, 0, 0, 0);
        x.addVariant();
        x.replaceItem(0, 0, 3);
        x.replaceResource(0, 1, 4);
        x.turn(0, true);
        x.addVariant();
        x.replaceItem(1, 3, 0);
        x.replaceResource(1, 3, 0);
        x.addMarkup(10, 1 + 8);
        x.addMarkup(5, 2 + 4 + 16);
        return x;
    }

    /** As much of everything as there can be; variant 3 is on. */
    static Takeoff full() {
        Takeoff x = new Takeoff();
        for (int k = 0; k < 12; k++) {
            x.addResource(k % 3, 5 + k, 2 * k, 1 + 3 * k);
            x.addItem(k % 6);
        }
        for (int k = 0; k < 4; k++) {
            x.addCrew();
            x.addMember(k, 1, 1 + k);
            x.addMember(k, 2, 2);
            x.addMember(k, 3 * k + 2 == 2 ? 5 : 3 * k + 2, 3);
        }
        for (int k = 0; k < 12; k++) {
            x.addUse(k, k, 1 + k);
            x.addWork(k, k % 4, 2);
            x.addUse(k, (k + 5) % 12, 3);
            if (k < 4 || k >= 10) {
                x.addUse(k, 1, 1);
            } else {
                x.addPart(k, k < 7 ? k - 3 : k - 4, 2);
            }
        }
        for (int k = 0; k < 10; k++) {
            x.addLine(11 - k);
        }
        for (int k = 0; k < 40; k++) {
            x.addRow(k % 10, "nlrtpv".charAt(k % 6), 1 + k % 3, 2, 3, 1);
        }
        for (int k = 0; k < 4; k++) {
            x.addVariant();
            x.replaceItem(k, k, k + 1);
            x.replaceResource(k, k, k + 3);
            x.addMarkup(10 + k, 5 + (k == 0 ? 0 : 8 << k));
        }
        x.turn(3, true);
        return x;
    }

    /** One of each: a resource for 1 cent, an item of trade 0 with no components, a line of it without rows. */
    static Takeoff bare() {
        Takeoff x = new Takeoff();
        x.addResource(Takeoff.MATERIAL, 1, 0, 1);
        x.addItem(0);
        x.addLine(0);
        return x;
    }

    /** As many rows as it takes to give a line a quantity that it does not have yet. */
    static void measure(Takeoff x, int line, int units) {
        int left = units;
        while (left >= 99) {
            int times = Math.min(left / 99, 99);
            x.addRow(line, 'l', times, 99, 0, 0);
            left -= times * 99;
        }
        if (left > 0) {
            x.addRow(line, 'n', left, 0, 0, 0);
        }
    }
}
