import java.util.ArrayList;
import java.util.Arrays;
import java.util.NoSuchElementException;

/** An estimator of what a building costs. */
public final class Takeoff {
    /** A kind of resources that are built in. */
    public static final int MATERIAL = 0;
    /** A kind of resources that work. */
    public static final int LABOUR = 1;
    /** A kind of resources with which it is worked. */
    public static final int PLANT = 2;

    private static final int MOST_RESOURCES = 12;
    private static final int MOST_CREWS = 4;
    private static final int MOST_MEMBERS = 3;
    private static final int MOST_ITEMS = 12;
    private static final int MOST_COMPONENTS = 4;
    private static final int MOST_LINES = 10;
    private static final int MOST_ROWS = 40;
    private static final int MOST_VARIANTS = 4;
    private static final int MOST_MARKUPS = 4;
    private static final int MOST_PRICE = 9999;
    private static final int MOST_PERCENT = 50;
    private static final int MOST_QUANTITY = 10000;
    private static final int DEEPEST = 3;
    private static final int TRADES = 6;

    private static final int PART = 0;
    private static final int USE = 1;
    private static final int WORK = 2;

    private static final int EXTRA_BIT = 3;
    private static final int FIRST_MARKUP_BIT = 4;
    private static final int NOTHING = -1;

    private final Plan plan;
    private final Estimate estimate;
    private int variantsOn;

    public Takeoff() {
        Plan empty = new Plan();
        plan = empty;
        estimate = new Estimate(empty);
        variantsOn = 0;
    }

    // ---- resources and crews

    public int addResource(int kind, int price, int waste, int pack)
            throws IllegalArgumentException, IllegalStateException {
        checkKind(kind);
        checkRange(price, 0, MOST_PRICE);
        checkRange(waste, 0, MOST_PERCENT);
        checkRange(pack, 1, 99);
        checkRoom(plan.resources.size(), MOST_RESOURCES);
        plan.resources.add(new Resource(kind, price, waste, pack));
        return plan.resources.size() - 1;
    }

    public int setPrice(int resource, int price)
            throws IndexOutOfBoundsException, IllegalArgumentException {
        checkResource(resource);
        checkRange(price, 0, MOST_PRICE);
        Resource priced = plan.resources.get(resource);
        int before = priced.price;
        priced.price = price;
        return before;
    }

    public int addCrew() throws IllegalStateException {
        checkRoom(plan.crews.size(), MOST_CREWS);
        plan.crews.add(new Crew());
        return plan.crews.size() - 1;
    }

    public int addMember(int crew, int resource, int number)
            throws IndexOutOfBoundsException, IllegalArgumentException,
            UnsupportedOperationException, IllegalStateException {
        checkCrew(crew);
        checkResource(resource);
        checkRange(number, 1, 9);
        if (plan.resources.get(resource).kind == MATERIAL) {
            throw new UnsupportedOperationException("a material is no member of a crew");
        }
        Crew joined = plan.crews.get(crew);
        if (joined.hasMember(resource)) {
            throw new IllegalStateException("the resource is a member of the crew");
        }
        checkRoom(joined.size, MOST_MEMBERS);
        joined.join(resource, number);
        return joined.size;
    }

    // ---- items

    public int addItem(int trade) throws IllegalArgumentException, IllegalStateException {
        checkRange(trade, 0, TRADES - 1);
        checkRoom(plan.items.size(), MOST_ITEMS);
        plan.items.add(new Item(trade));
        return plan.items.size() - 1;
    }

    public int addPart(int item, int part, int quantity)
            throws IndexOutOfBoundsException, IllegalArgumentException,
            IllegalStateException, UnsupportedOperationException {
        checkItem(item);
        checkItem(part);
        checkRange(quantity, 1, 9);
        addComponent(item, new Component(PART, part, quantity));
        if (!estimate.choose(variantsOn)) {
            plan.items.get(item).dropLastComponent();
            throw new UnsupportedOperationException("an item would need itself or be too deep");
        }
        return estimate.depths[item];
    }

    public int addUse(int item, int resource, int quantity)
            throws IndexOutOfBoundsException, IllegalArgumentException, IllegalStateException {
        checkItem(item);
        checkResource(resource);
        checkRange(quantity, 1, 99);
        return addComponent(item, new Component(USE, resource, quantity));
    }

    public int addWork(int item, int crew, int minutes)
            throws IndexOutOfBoundsException, IllegalArgumentException, IllegalStateException {
        checkItem(item);
        checkCrew(crew);
        checkRange(minutes, 1, 99);
        return addComponent(item, new Component(WORK, crew, minutes));
    }

    public int dropLast(int item) throws IndexOutOfBoundsException, IllegalStateException {
        checkItem(item);
        Item shortened = plan.items.get(item);
        if (shortened.components.isEmpty()) {
            throw new IllegalStateException("the item has no components");
        }
        shortened.dropLastComponent();
        return shortened.components.size();
    }

    public int depthOf(int item) throws IndexOutOfBoundsException {
        checkItem(item);
        estimate.choose(variantsOn);
        return estimate.depths[item];
    }

    public long unitCost(int item) throws IndexOutOfBoundsException {
        checkItem(item);
        workOut(variantsOn);
        return estimate.costOfUnits(estimate.needs[item]);
    }

    public long needed(int item, int resource) throws IndexOutOfBoundsException {
        checkItem(item);
        checkResource(resource);
        workOut(variantsOn);
        return estimate.needs[item][resource];
    }

    // ---- the bill

    public int addLine(int item) throws IndexOutOfBoundsException, IllegalStateException {
        checkItem(item);
        checkRoom(plan.lines.size(), MOST_LINES);
        plan.lines.add(new Line(item));
        return plan.lines.size() - 1;
    }

    public int addRow(int line, char shape, int times, int a, int b, int c)
            throws IndexOutOfBoundsException, IllegalArgumentException,
            IllegalStateException, ArithmeticException {
        checkLine(line);
        checkShape(shape);
        checkTimes(times);
        checkRange(a, 0, 99);
        checkRange(b, 0, 99);
        checkRange(c, 0, 99);
        checkRoom(plan.rows.size(), MOST_ROWS);
        int measured = times * sizeOf(shape, a, b, c);
        int quantityAfter = changeQuantity(line, measured);
        plan.rows.add(new Row(line, measured));
        return quantityAfter;
    }

    public int dropRow(int row) throws IndexOutOfBoundsException, ArithmeticException {
        checkRow(row);
        Row dropped = plan.rows.get(row);
        int quantityAfter = changeQuantity(dropped.line, -dropped.measured);
        plan.rows.remove(row);
        return quantityAfter;
    }

    public int measure(int row) throws IndexOutOfBoundsException {
        checkRow(row);
        return plan.rows.get(row).measured;
    }

    public int quantity(int line) throws IndexOutOfBoundsException {
        checkLine(line);
        return plan.lines.get(line).units;
    }

    public int rows() {
        return plan.rows.size();
    }

    // ---- variants

    public int addVariant() throws IllegalStateException {
        checkRoom(plan.variants.size(), MOST_VARIANTS);
        plan.variants.add(new Variant());
        return plan.variants.size() - 1;
    }

    public int replaceItem(int variant, int item, int other)
            throws IndexOutOfBoundsException, IllegalArgumentException, IllegalStateException {
        checkVariant(variant);
        checkItem(item);
        checkItem(other);
        if (item == other) {
            throw new IllegalArgumentException("both items are the same");
        }
        checkOff(variant);
        Variant changed = plan.variants.get(variant);
        changed.itemsBy[item] = other;
        return countReplaced(changed.itemsBy);
    }

    public int replaceResource(int variant, int resource, int other)
            throws IndexOutOfBoundsException, IllegalArgumentException, IllegalStateException {
        checkVariant(variant);
        checkResource(resource);
        checkResource(other);
        if (resource == other) {
            throw new IllegalArgumentException("both resources are the same");
        }
        if (plan.resources.get(resource).kind != plan.resources.get(other).kind) {
            throw new IllegalArgumentException("the kinds of the resources are different");
        }
        checkOff(variant);
        Variant changed = plan.variants.get(variant);
        changed.resourcesBy[resource] = other;
        return countReplaced(changed.resourcesBy);
    }

    public boolean turn(int variant, boolean isOn)
            throws IndexOutOfBoundsException, UnsupportedOperationException {
        checkVariant(variant);
        boolean wasOn = hasBit(variantsOn, variant);
        if (wasOn != isOn) {
            int turned = variantsOn ^ (1 << variant);
            checkFits(turned);
            variantsOn = turned;
        }
        return wasOn;
    }

    public long difference(int variant)
            throws IndexOutOfBoundsException, UnsupportedOperationException {
        checkVariant(variant);
        int turned = variantsOn ^ (1 << variant);
        checkFits(turned);
        workOut(turned);
        long totalTurned = estimate.totalCost();
        workOut(variantsOn);
        return totalTurned - estimate.totalCost();
    }

    public int cheapestVariants() {
        int cheapest = NOTHING;
        long least = 0;
        int sets = 1 << plan.variants.size();
        for (int set = 0; set < sets; set++) {
            if (estimate.choose(set)) {
                estimate.workOutCosts();
                long sum = estimate.totalCost();
                if (cheapest == NOTHING || sum < least) {
                    cheapest = set;
                    least = sum;
                }
            }
        }
        return cheapest;
    }

    // ---- mark-ups

    public int addMarkup(int percent, int bases)
            throws IllegalStateException, IllegalArgumentException {
        int number = plan.markups.size();
        checkRoom(number, MOST_MARKUPS);
        checkRange(percent, 0, MOST_PERCENT);
        int bitsForSomething = (1 << (FIRST_MARKUP_BIT + number)) - 1;
        if ((bases & ~bitsForSomething) != 0) {
            throw new IllegalArgumentException("a bit is for nothing");
        }
        plan.markups.add(new Markup(percent, bases));
        return number;
    }

    public int setPercent(int markup, int percent)
            throws IndexOutOfBoundsException, IllegalArgumentException {
        checkMarkup(markup);
        checkRange(percent, 0, MOST_PERCENT);
        Markup changed = plan.markups.get(markup);
        int before = changed.percent;
        changed.percent = percent;
        return before;
    }

    public long markup(int markup) throws IndexOutOfBoundsException {
        checkMarkup(markup);
        workOut(variantsOn);
        return estimate.surcharges[markup];
    }

    // ---- amounts and costs

    public long amount(int resource) throws IndexOutOfBoundsException {
        checkResource(resource);
        workOut(variantsOn);
        return estimate.amounts[resource];
    }

    public long amountByTree(int resource) throws IndexOutOfBoundsException {
        checkResource(resource);
        estimate.choose(variantsOn);
        return estimate.amountInTrees(resource);
    }

    public long packs(int resource) throws IndexOutOfBoundsException {
        checkResource(resource);
        workOut(variantsOn);
        return estimate.packsBought(resource);
    }

    public long costOfLine(int line) throws IndexOutOfBoundsException {
        checkLine(line);
        workOut(variantsOn);
        return estimate.lineCost(line);
    }

    public long costOfTrade(int trade) throws IllegalArgumentException {
        checkRange(trade, 0, TRADES - 1);
        workOut(variantsOn);
        return estimate.tradeCost(trade);
    }

    public long costOfKind(int kind) throws IllegalArgumentException {
        checkKind(kind);
        workOut(variantsOn);
        return estimate.kindCost(kind);
    }

    public long net() {
        workOut(variantsOn);
        return estimate.netCost();
    }

    public long extra() {
        workOut(variantsOn);
        return estimate.extraCost();
    }

    public long total() {
        workOut(variantsOn);
        return estimate.totalCost();
    }

    public int dearest(int rank) throws NoSuchElementException {
        workOut(variantsOn);
        for (int resource = 0; resource < plan.resources.size(); resource++) {
            if (estimate.resourceCost(resource) > 0 && estimate.rankOf(resource) == rank) {
                return resource;
            }
        }
        throw new NoSuchElementException("there is no such rank");
    }

    public float share(int kind) throws IllegalArgumentException, ArithmeticException {
        checkKind(kind);
        workOut(variantsOn);
        long whole = estimate.netCost();
        checkDivisor(whole);
        return (float) estimate.kindCost(kind) / (float) whole;
    }

    public double factor() throws ArithmeticException {
        workOut(variantsOn);
        long whole = estimate.netCost();
        checkDivisor(whole);
        return (double) estimate.totalCost() / (double) whole;
    }

    public boolean isSound() {
        workOut(variantsOn);
        long whole = estimate.netCost();
        return estimate.costOfAllLines() == whole
                && estimate.costOfAllKinds() == whole
                && estimate.costOfAllTrades() == whole
                && estimate.amountsAgree();
    }

    // ---- what the calls share

    /** The set is known to fit: it is on, or has just been tried. */
    private void workOut(int set) {
        estimate.choose(set);
        estimate.workOutCosts();
    }

    private int addComponent(int item, Component component) {
        ArrayList<Component> components = plan.items.get(item).components;
        checkRoom(components.size(), MOST_COMPONENTS);
        components.add(component);
        return components.size();
    }

    private int changeQuantity(int line, int change) {
        Line changed = plan.lines.get(line);
        int after = changed.units + change;
        if (after < 0 || after > MOST_QUANTITY) {
            throw new ArithmeticException("the quantity of the line would be out of range");
        }
        changed.units = after;
        return after;
    }

    private static int sizeOf(char shape, int a, int b, int c) {
        switch (shape) {
            case 'l':
                return a;
            case 'r':
                return a * b;
            case 't':
                return a * b / 2;
            case 'p':
                return 2 * (a + b);
            case 'v':
                return a * b * c;
            default:
                return 1;
        }
    }

    private static int countReplaced(int[] by) {
        int count = 0;
        for (int number = 0; number < by.length; number++) {
            if (by[number] != NOTHING) {
                count++;
            }
        }
        return count;
    }

    private static boolean hasBit(int set, int bit) {
        return (set >> bit & 1) == 1;
    }

    // ---- the exceptions that are due

    private static boolean isNumberOf(int number, int count) {
        return number >= 0 && number < count;
    }

    private void checkResource(int resource) {
        if (!isNumberOf(resource, plan.resources.size())) {
            throw new IndexOutOfBoundsException("there is no such resource");
        }
    }

    private void checkCrew(int crew) {
        if (!isNumberOf(crew, plan.crews.size())) {
            throw new IndexOutOfBoundsException("there is no such crew");
        }
    }

    private void checkItem(int item) {
        if (!isNumberOf(item, plan.items.size())) {
            throw new IndexOutOfBoundsException("there is no such item");
        }
    }

    private void checkLine(int line) {
        if (!isNumberOf(line, plan.lines.size())) {
            throw new IndexOutOfBoundsException("there is no such line");
        }
    }

    private void checkRow(int row) {
        if (!isNumberOf(row, plan.rows.size())) {
            throw new IndexOutOfBoundsException("there is no such row");
        }
    }

    private void checkVariant(int variant) {
        if (!isNumberOf(variant, plan.variants.size())) {
            throw new IndexOutOfBoundsException("there is no such variant");
        }
    }

    private void checkMarkup(int markup) {
        if (!isNumberOf(markup, plan.markups.size())) {
            throw new IndexOutOfBoundsException("there is no such mark-up");
        }
    }

    private static void checkKind(int kind) {
        if (kind != MATERIAL && kind != LABOUR && kind != PLANT) {
            throw new IllegalArgumentException("there is no such kind");
        }
    }

    private static void checkShape(char shape) {
        if (shape != 'n' && shape != 'l' && shape != 'r'
                && shape != 't' && shape != 'p' && shape != 'v') {
            throw new IllegalArgumentException("there is no such shape");
        }
    }

    private static void checkTimes(int times) {
        checkRange(times, -9, 99);
        if (times == 0) {
            throw new IllegalArgumentException("the times are 0");
        }
    }

    private static void checkRange(int number, int least, int most) {
        if (number < least || number > most) {
            throw new IllegalArgumentException("a number is out of range");
        }
    }

    private static void checkRoom(int count, int most) {
        if (count >= most) {
            throw new IllegalStateException("there is no room for one more");
        }
    }

    private void checkOff(int variant) {
        if (hasBit(variantsOn, variant)) {
            throw new IllegalStateException("the variant is on");
        }
    }

    private void checkFits(int set) {
        if (!estimate.choose(set)) {
            throw new UnsupportedOperationException("an item would need itself or be too deep");
        }
    }

    private static void checkDivisor(long whole) {
        if (whole == 0) {
            throw new ArithmeticException("the net cost is 0");
        }
    }

    // ---- what has been entered

    private static final class Plan {
        final ArrayList<Resource> resources = new ArrayList<>();
        final ArrayList<Crew> crews = new ArrayList<>();
        final ArrayList<Item> items = new ArrayList<>();
        final ArrayList<Line> lines = new ArrayList<>();
        final ArrayList<Row> rows = new ArrayList<>();
        final ArrayList<Variant> variants = new ArrayList<>();
        final ArrayList<Markup> markups = new ArrayList<>();
    }

    private static final class Resource {
        final int kind;
        int price;
        final int waste;
        final int pack;

        Resource(int kind, int price, int waste, int pack) {
            this.kind = kind;
            this.price = price;
            this.waste = waste;
            this.pack = pack;
        }
    }

    private static final class Crew {
        final int[] members = new int[MOST_MEMBERS];
        final int[] numbers = new int[MOST_MEMBERS];
        int size = 0;

        boolean hasMember(int resource) {
            for (int place = 0; place < size; place++) {
                if (members[place] == resource) {
                    return true;
                }
            }
            return false;
        }

        void join(int resource, int number) {
            members[size] = resource;
            numbers[size] = number;
            size++;
        }
    }

    private static final class Item {
        final int trade;
        final ArrayList<Component> components = new ArrayList<>();

        Item(int trade) {
            this.trade = trade;
        }

        void dropLastComponent() {
            if (!components.isEmpty()) {
                components.remove(components.size() - 1);
            }
        }
    }

    /** The target is the number of an item, of a resource or of a crew, as the type is PART, USE or WORK. */
    private static final class Component {
        final int type;
        final int target;
        final int units;

        Component(int type, int target, int units) {
            this.type = type;
            this.target = target;
            this.units = units;
        }
    }

    private static final class Line {
        final int item;
        int units = 0;

        Line(int item) {
            this.item = item;
        }
    }

    private static final class Row {
        final int line;
        final int measured;

        Row(int line, int measured) {
            this.line = line;
            this.measured = measured;
        }
    }

    /** By which item or resource each one is replaced, or NOTHING. */
    private static final class Variant {
        final int[] itemsBy = new int[MOST_ITEMS];
        final int[] resourcesBy = new int[MOST_RESOURCES];

        Variant() {
            Arrays.fill(itemsBy, NOTHING);
            Arrays.fill(resourcesBy, NOTHING);
        }
    }

    private static final class Markup {
        int percent;
        final int bases;

        Markup(int percent, int bases) {
            this.percent = percent;
            this.bases = bases;
        }
    }

    // ---- what follows from it

    /**
     * What a plan costs with a set of variants. First choose(set) is called, which says whether the set
     * fits, then workOutCosts(), then the rest. Its tables are made once and filled anew each time.
     */
    private static final class Estimate {
        private final Plan plan;
        private final int[] meantItems = new int[MOST_ITEMS];
        private final int[] meantResources = new int[MOST_RESOURCES];
        private final int[] depths = new int[MOST_ITEMS];
        /** What the uses and works of an item need, without its parts. */
        private final long[][] ownNeeds = new long[MOST_ITEMS][MOST_RESOURCES];
        private final long[][] needs = new long[MOST_ITEMS][MOST_RESOURCES];
        /** How many units of an item are needed for all lines. */
        private final long[] itemUnits = new long[MOST_ITEMS];
        private final long[] amounts = new long[MOST_RESOURCES];
        private final long[] surcharges = new long[MOST_MARKUPS];

        Estimate(Plan plan) {
            this.plan = plan;
        }

        boolean choose(int set) {
            for (int item = 0; item < plan.items.size(); item++) {
                meantItems[item] = meantItem(set, item);
            }
            for (int resource = 0; resource < plan.resources.size(); resource++) {
                meantResources[resource] = meantResource(set, resource);
            }
            return findDepths();
        }

        private int meantItem(int set, int item) {
            for (int variant = 0; variant < plan.variants.size(); variant++) {
                int other = plan.variants.get(variant).itemsBy[item];
                if (hasBit(set, variant) && other != NOTHING) {
                    return other;
                }
            }
            return item;
        }

        private int meantResource(int set, int resource) {
            for (int variant = 0; variant < plan.variants.size(); variant++) {
                int other = plan.variants.get(variant).resourcesBy[resource];
                if (hasBit(set, variant) && other != NOTHING) {
                    return other;
                }
            }
            return resource;
        }

        /** So many passes are enough: an item that needs itself becomes deeper in each of them. */
        private boolean findDepths() {
            Arrays.fill(depths, 1);
            for (int pass = 0; pass < DEEPEST; pass++) {
                for (int item = 0; item < plan.items.size(); item++) {
                    depths[item] = 1 + deepestPart(item);
                }
            }
            for (int item = 0; item < plan.items.size(); item++) {
                if (depths[item] > DEEPEST) {
                    return false;
                }
            }
            return true;
        }

        private int deepestPart(int item) {
            ArrayList<Component> components = plan.items.get(item).components;
            int deepest = 0;
            for (int place = 0; place < components.size(); place++) {
                Component component = components.get(place);
                if (component.type == PART) {
                    deepest = Math.max(deepest, depths[meantItems[component.target]]);
                }
            }
            return deepest;
        }

        void workOutCosts() {
            findOwnNeeds();
            findNeeds();
            findItemUnits();
            findAmounts();
            findSurcharges();
        }

        private void findOwnNeeds() {
            for (int item = 0; item < plan.items.size(); item++) {
                long[] own = ownNeeds[item];
                Arrays.fill(own, 0);
                ArrayList<Component> components = plan.items.get(item).components;
                for (int place = 0; place < components.size(); place++) {
                    addOwnNeed(own, components.get(place));
                }
            }
        }

        private void addOwnNeed(long[] own, Component component) {
            if (component.type == USE) {
                own[meantResources[component.target]] += component.units;
            } else if (component.type == WORK) {
                Crew crew = plan.crews.get(component.target);
                for (int place = 0; place < crew.size; place++) {
                    own[meantResources[crew.members[place]]] += component.units * crew.numbers[place];
                }
            }
        }

        /** An item's parts are less deep than itself, so they are ready when it comes. */
        private void findNeeds() {
            for (int depth = 1; depth <= DEEPEST; depth++) {
                for (int item = 0; item < plan.items.size(); item++) {
                    if (depths[item] == depth) {
                        findNeedsOf(item);
                    }
                }
            }
        }

        private void findNeedsOf(int item) {
            Arrays.fill(needs[item], 0);
            addTimes(needs[item], ownNeeds[item], 1);
            ArrayList<Component> components = plan.items.get(item).components;
            for (int place = 0; place < components.size(); place++) {
                Component component = components.get(place);
                if (component.type == PART) {
                    addTimes(needs[item], needs[meantItems[component.target]], component.units);
                }
            }
        }

        private static void addTimes(long[] sums, long[] added, long times) {
            for (int resource = 0; resource < MOST_RESOURCES; resource++) {
                sums[resource] += added[resource] * times;
            }
        }

        /** From the deepest items on, so an item's units are all counted before its parts get theirs. */
        private void findItemUnits() {
            Arrays.fill(itemUnits, 0);
            for (int number = 0; number < plan.lines.size(); number++) {
                Line line = plan.lines.get(number);
                itemUnits[meantItems[line.item]] += line.units;
            }
            for (int depth = DEEPEST; depth > 1; depth--) {
                for (int item = 0; item < plan.items.size(); item++) {
                    if (depths[item] == depth) {
                        passUnitsOn(item);
                    }
                }
            }
        }

        private void passUnitsOn(int item) {
            ArrayList<Component> components = plan.items.get(item).components;
            for (int place = 0; place < components.size(); place++) {
                Component component = components.get(place);
                if (component.type == PART) {
                    itemUnits[meantItems[component.target]] += itemUnits[item] * component.units;
                }
            }
        }

        private void findAmounts() {
            Arrays.fill(amounts, 0);
            for (int number = 0; number < plan.lines.size(); number++) {
                Line line = plan.lines.get(number);
                addTimes(amounts, needs[meantItems[line.item]], line.units);
            }
        }

        private void findSurcharges() {
            for (int number = 0; number < plan.markups.size(); number++) {
                Markup markup = plan.markups.get(number);
                surcharges[number] = sumOfBases(markup.bases, number) * markup.percent / 100;
            }
        }

        private long sumOfBases(int bases, int number) {
            long sum = 0;
            for (int kind = MATERIAL; kind <= PLANT; kind++) {
                if (hasBit(bases, kind)) {
                    sum += kindCost(kind);
                }
            }
            if (hasBit(bases, EXTRA_BIT)) {
                sum += extraCost();
            }
            for (int lower = 0; lower < number; lower++) {
                if (hasBit(bases, FIRST_MARKUP_BIT + lower)) {
                    sum += surcharges[lower];
                }
            }
            return sum;
        }

        long costOfUnits(long[] units) {
            long sum = 0;
            for (int resource = 0; resource < plan.resources.size(); resource++) {
                sum += units[resource] * plan.resources.get(resource).price;
            }
            return sum;
        }

        long resourceCost(int resource) {
            return amounts[resource] * plan.resources.get(resource).price;
        }

        long packsBought(int resource) {
            Resource bought = plan.resources.get(resource);
            // No such pack gets in, but a divisor is looked at where it divides.
            if (bought.pack < 1) {
                return 0;
            }
            long wasted = (amounts[resource] * bought.waste + 99) / 100;
            return (amounts[resource] + wasted + bought.pack - 1) / bought.pack;
        }

        long lineCost(int number) {
            Line line = plan.lines.get(number);
            return line.units * costOfUnits(needs[meantItems[line.item]]);
        }

        long tradeCost(int trade) {
            long sum = 0;
            for (int item = 0; item < plan.items.size(); item++) {
                if (plan.items.get(item).trade == trade) {
                    sum += itemUnits[item] * costOfUnits(ownNeeds[item]);
                }
            }
            return sum;
        }

        long kindCost(int kind) {
            long sum = 0;
            for (int number = 0; number < plan.resources.size(); number++) {
                Resource resource = plan.resources.get(number);
                if (resource.kind == kind) {
                    sum += amounts[number] * resource.price;
                }
            }
            return sum;
        }

        long netCost() {
            return costOfUnits(amounts);
        }

        long extraCost() {
            long sum = 0;
            for (int number = 0; number < plan.resources.size(); number++) {
                Resource resource = plan.resources.get(number);
                long units = packsBought(number) * resource.pack;
                sum += (units - amounts[number]) * resource.price;
            }
            return sum;
        }

        long totalCost() {
            long sum = netCost() + extraCost();
            for (int number = 0; number < plan.markups.size(); number++) {
                sum += surcharges[number];
            }
            return sum;
        }

        int rankOf(int resource) {
            long cost = resourceCost(resource);
            int rank = 0;
            for (int other = 0; other < plan.resources.size(); other++) {
                long otherCost = resourceCost(other);
                if (otherCost > cost || (otherCost == cost && other < resource)) {
                    rank++;
                }
            }
            return rank;
        }

        long costOfAllLines() {
            long sum = 0;
            for (int line = 0; line < plan.lines.size(); line++) {
                sum += lineCost(line);
            }
            return sum;
        }

        long costOfAllKinds() {
            long sum = 0;
            for (int kind = MATERIAL; kind <= PLANT; kind++) {
                sum += kindCost(kind);
            }
            return sum;
        }

        long costOfAllTrades() {
            long sum = 0;
            for (int trade = 0; trade < TRADES; trade++) {
                sum += tradeCost(trade);
            }
            return sum;
        }

        boolean amountsAgree() {
            for (int resource = 0; resource < plan.resources.size(); resource++) {
                if (amounts[resource] != amountInTrees(resource)) {
                    return false;
                }
            }
            return true;
        }

        long amountInTrees(int resource) {
            long sum = 0;
            for (int number = 0; number < plan.lines.size(); number++) {
                Line line = plan.lines.get(number);
                sum += line.units * unitsInTree(meantItems[line.item], resource, 1);
            }
            return sum;
        }

        private long unitsInTree(int item, int resource, int level) {
            if (level > DEEPEST) {
                return 0;
            }
            ArrayList<Component> components = plan.items.get(item).components;
            long sum = 0;
            for (int place = 0; place < components.size(); place++) {
                sum += unitsInComponent(components.get(place), resource, level);
            }
            return sum;
        }

        private long unitsInComponent(Component component, int resource, int level) {
            if (component.type == PART) {
                int part = meantItems[component.target];
                return component.units * unitsInTree(part, resource, level + 1);
            }
            if (component.type == WORK) {
                return component.units * unitsInCrew(component.target, resource);
            }
            return meantResources[component.target] == resource ? component.units : 0;
        }

        private long unitsInCrew(int number, int resource) {
            Crew crew = plan.crews.get(number);
            long sum = 0;
            for (int place = 0; place < crew.size; place++) {
                if (meantResources[crew.members[place]] == resource) {
                    sum += crew.numbers[place];
                }
            }
            return sum;
        }
    }
}
