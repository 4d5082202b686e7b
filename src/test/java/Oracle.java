import java.math.BigInteger;
import java.util.ArrayList;
import java.util.Arrays;
import java.util.List;
import java.util.Map;
import java.util.NoSuchElementException;
import java.util.TreeMap;
import java.util.TreeSet;

/**
 * The document once more, worked out in another way than the class does it: everything is found by
 * going down the trees with numbers of any length, and nothing is kept but what was entered.
 */
final class Oracle {
    private static final int TOO_DEEP = 100;

    private final List<int[]> resources = new ArrayList<>();
    private final List<List<int[]>> crews = new ArrayList<>();
    private final List<Integer> trades = new ArrayList<>();
    private final List<List<int[]>> components = new ArrayList<>();
    private final List<Integer> lines = new ArrayList<>();
    private final List<int[]> rows = new ArrayList<>();
    private final List<Map<Integer, Integer>> itemSwaps = new ArrayList<>();
    private final List<Map<Integer, Integer>> resourceSwaps = new ArrayList<>();
    private final List<int[]> markups = new ArrayList<>();
    private TreeSet<Integer> on = new TreeSet<>();

    /** The answer as a text, or the simple name of the exception's class behind "throws ". */
    String answer(String name, int[] a) {
        String refusal = refusal(name, a);
        return refusal != null ? "throws " + refusal : String.valueOf(carryOut(name, a));
    }

    int resources() {
        return resources.size();
    }

    int crews() {
        return crews.size();
    }

    int items() {
        return trades.size();
    }

    int lines() {
        return lines.size();
    }

    int rows() {
        return rows.size();
    }

    int variants() {
        return itemSwaps.size();
    }

    int markups() {
        return markups.size();
    }

    // ---- which exception is due

    private static final String BOUNDS = IndexOutOfBoundsException.class.getSimpleName();
    private static final String ARGUMENT = IllegalArgumentException.class.getSimpleName();
    private static final String STATE = IllegalStateException.class.getSimpleName();
    private static final String UNSUPPORTED = UnsupportedOperationException.class.getSimpleName();
    private static final String ARITHMETIC = ArithmeticException.class.getSimpleName();
    private static final String NO_ELEMENT = NoSuchElementException.class.getSimpleName();

    private String refusal(String name, int[] a) {
        switch (name) {
            case "addResource":
                return in(a[0], 0, 2) && in(a[1], 0, 9999) && in(a[2], 0, 50) && in(a[3], 1, 99)
                    ? full(resources, 12) : ARGUMENT;
            case "setPrice":
                return !has(resources, a[0]) ? BOUNDS : !in(a[1], 0, 9999) ? ARGUMENT : null;
            case "addCrew":
                return full(crews, 4);
            case "addMember":
                return refuseMember(a);
            case "addItem":
                return !in(a[0], 0, 5) ? ARGUMENT : full(trades, 12);
            case "addPart":
                return refusePart(a);
            case "addUse":
                return !has(trades, a[0]) || !has(resources, a[1]) ? BOUNDS
                    : !in(a[2], 1, 99) ? ARGUMENT : full(components.get(a[0]), 4);
            case "addWork":
                return !has(trades, a[0]) || !has(crews, a[1]) ? BOUNDS
                    : !in(a[2], 1, 99) ? ARGUMENT : full(components.get(a[0]), 4);
            case "dropLast":
                return !has(trades, a[0]) ? BOUNDS : components.get(a[0]).isEmpty() ? STATE : null;
            case "depthOf":
            case "unitCost":
                return has(trades, a[0]) ? null : BOUNDS;
            case "needed":
                return has(trades, a[0]) && has(resources, a[1]) ? null : BOUNDS;
            case "addLine":
                return !has(trades, a[0]) ? BOUNDS : full(lines, 10);
            case "addRow":
                return refuseRow(a);
            case "dropRow":
                return !has(rows, a[0]) ? BOUNDS : refuseQuantity(quantity(rows.get(a[0])[0]) - measure(rows.get(a[0])));
            case "measure":
                return has(rows, a[0]) ? null : BOUNDS;
            case "quantity":
            case "costOfLine":
                return has(lines, a[0]) ? null : BOUNDS;
            case "addVariant":
                return full(itemSwaps, 4);
            case "replaceItem":
                return !has(itemSwaps, a[0]) || !has(trades, a[1]) || !has(trades, a[2]) ? BOUNDS
                    : a[1] == a[2] ? ARGUMENT : on.contains(a[0]) ? STATE : null;
            case "replaceResource":
                return !has(itemSwaps, a[0]) || !has(resources, a[1]) || !has(resources, a[2]) ? BOUNDS
                    : a[1] == a[2] || resources.get(a[1])[0] != resources.get(a[2])[0] ? ARGUMENT
                    : on.contains(a[0]) ? STATE : null;
            case "turn":
                return !has(itemSwaps, a[0]) ? BOUNDS : fits(with(a[0], a[1] != 0)) ? null : UNSUPPORTED;
            case "difference":
                return !has(itemSwaps, a[0]) ? BOUNDS : fits(with(a[0], !on.contains(a[0]))) ? null : UNSUPPORTED;
            case "addMarkup":
                return markups.size() == 4 ? STATE
                    : in(a[0], 0, 50) && in(a[1], 0, (1 << 4 + markups.size()) - 1) ? null : ARGUMENT;
            case "setPercent":
                return !has(markups, a[0]) ? BOUNDS : in(a[1], 0, 50) ? null : ARGUMENT;
            case "markup":
                return has(markups, a[0]) ? null : BOUNDS;
            case "amount":
            case "amountByTree":
            case "packs":
                return has(resources, a[0]) ? null : BOUNDS;
            case "costOfTrade":
                return in(a[0], 0, 5) ? null : ARGUMENT;
            case "costOfKind":
                return in(a[0], 0, 2) ? null : ARGUMENT;
            case "dearest":
                return has(order(), a[0]) ? null : NO_ELEMENT;
            case "share":
                return !in(a[0], 0, 2) ? ARGUMENT : net(on).signum() == 0 ? ARITHMETIC : null;
            case "factor":
                return net(on).signum() == 0 ? ARITHMETIC : null;
            default:
                return null;
        }
    }

    private static boolean in(int number, int least, int most) {
        return least <= number && number <= most;
    }

    private static boolean has(List<?> list, int number) {
        return in(number, 0, list.size() - 1);
    }

    private static String full(List<?> list, int most) {
        return list.size() == most ? STATE : null;
    }

    private String refuseMember(int[] a) {
        if (!has(crews, a[0]) || !has(resources, a[1])) {
            return BOUNDS;
        }
        if (!in(a[2], 1, 9)) {
            return ARGUMENT;
        }
        if (resources.get(a[1])[0] == 0) {
            return UNSUPPORTED;
        }
        boolean isMember = crews.get(a[0]).stream().anyMatch(member -> member[0] == a[1]);
        return isMember ? STATE : full(crews.get(a[0]), 3);
    }

    private String refusePart(int[] a) {
        if (!has(trades, a[0]) || !has(trades, a[1])) {
            return BOUNDS;
        }
        if (!in(a[2], 1, 9)) {
            return ARGUMENT;
        }
        List<int[]> changed = components.get(a[0]);
        if (changed.size() == 4) {
            return STATE;
        }
        changed.add(new int[] {0, a[1], a[2]});
        boolean fits = fits(on);
        changed.remove(changed.size() - 1);
        return fits ? null : UNSUPPORTED;
    }

    private String refuseRow(int[] a) {
        if (!has(lines, a[0])) {
            return BOUNDS;
        }
        boolean isShape = Arrays.asList('n', 'l', 'r', 't', 'p', 'v').contains((char) a[1]);
        if (!isShape || a[2] == 0 || !in(a[2], -9, 99) || !in(a[3], 0, 99) || !in(a[4], 0, 99) || !in(a[5], 0, 99)) {
            return ARGUMENT;
        }
        return rows.size() == 40 ? STATE : refuseQuantity(quantity(a[0]) + measure(a));
    }

    private static String refuseQuantity(long quantity) {
        return 0 <= quantity && quantity <= 10000 ? null : ARITHMETIC;
    }

    // ---- what a call answers that is not refused

    private Object carryOut(String name, int[] a) {
        switch (name) {
            case "addResource":
                resources.add(a.clone());
                return resources.size() - 1;
            case "setPrice":
                int price = resources.get(a[0])[1];
                resources.get(a[0])[1] = a[1];
                return price;
            case "addCrew":
                crews.add(new ArrayList<>());
                return crews.size() - 1;
            case "addMember":
                crews.get(a[0]).add(new int[] {a[1], a[2]});
                return crews.get(a[0]).size();
            case "addItem":
                trades.add(a[0]);
                components.add(new ArrayList<>());
                return trades.size() - 1;
            case "addPart":
                components.get(a[0]).add(new int[] {0, a[1], a[2]});
                return depth(a[0], on, 1);
            case "addUse":
                components.get(a[0]).add(new int[] {1, a[1], a[2]});
                return components.get(a[0]).size();
            case "addWork":
                components.get(a[0]).add(new int[] {2, a[1], a[2]});
                return components.get(a[0]).size();
            case "dropLast":
                components.get(a[0]).remove(components.get(a[0]).size() - 1);
                return components.get(a[0]).size();
            case "addLine":
                lines.add(a[0]);
                return lines.size() - 1;
            case "addRow":
                rows.add(a.clone());
                return quantity(a[0]);
            case "dropRow":
                return quantity(rows.remove(a[0])[0]);
            case "addVariant":
                itemSwaps.add(new TreeMap<>());
                resourceSwaps.add(new TreeMap<>());
                return itemSwaps.size() - 1;
            case "replaceItem":
                itemSwaps.get(a[0]).put(a[1], a[2]);
                return itemSwaps.get(a[0]).size();
            case "replaceResource":
                resourceSwaps.get(a[0]).put(a[1], a[2]);
                return resourceSwaps.get(a[0]).size();
            case "turn":
                boolean wasOn = on.contains(a[0]);
                on = with(a[0], a[1] != 0);
                return wasOn;
            case "addMarkup":
                markups.add(a.clone());
                return markups.size() - 1;
            case "setPercent":
                int percent = markups.get(a[0])[0];
                markups.get(a[0])[0] = a[1];
                return percent;
            default:
                return ask(name, a);
        }
    }

    private Object ask(String name, int[] a) {
        switch (name) {
            case "depthOf":
                return depth(a[0], on, 1);
            case "unitCost":
                return cost(ofItem(a[0], on), -1, -1);
            case "needed":
                return sum(ofItem(a[0], on), a[1]);
            case "measure":
                return measure(rows.get(a[0]));
            case "quantity":
                return quantity(a[0]);
            case "rows":
                return rows.size();
            case "difference":
                return total(with(a[0], !on.contains(a[0]))).subtract(total(on));
            case "cheapestVariants":
                return cheapest();
            case "markup":
                return markup(a[0], on);
            case "amount":
            case "amountByTree":
                return sum(ofAll(on), a[0]);
            case "packs":
                return packs(a[0], on);
            case "costOfLine":
                return cost(ofLine(a[0], on), -1, -1);
            case "costOfTrade":
                return cost(ofAll(on), a[0], -1);
            case "costOfKind":
                return cost(ofAll(on), -1, a[0]);
            case "net":
                return net(on);
            case "extra":
                return extra(on);
            case "total":
                return total(on);
            case "dearest":
                return order().get(a[0]);
            case "share":
                return cost(ofAll(on), -1, a[0]).floatValue() / net(on).floatValue();
            case "factor":
                return total(on).doubleValue() / net(on).doubleValue();
            case "isSound":
                return true;
            default:
                throw new AssertionError(name);
        }
    }

    // ---- variants and depths

    private TreeSet<Integer> with(int variant, boolean isOn) {
        TreeSet<Integer> set = new TreeSet<>(on);
        if (isOn) {
            set.add(variant);
        } else {
            set.remove(variant);
        }
        return set;
    }

    private static int meant(List<Map<Integer, Integer>> swaps, TreeSet<Integer> set, int number) {
        for (int variant : set) {
            if (swaps.get(variant).containsKey(number)) {
                return swaps.get(variant).get(number);
            }
        }
        return number;
    }

    private int depth(int item, TreeSet<Integer> set, int level) {
        if (level > 13) {
            return TOO_DEEP;
        }
        int below = 0;
        for (int[] component : components.get(item)) {
            if (component[0] == 0 && below < TOO_DEEP) {
                below = Math.max(below, depth(meant(itemSwaps, set, component[1]), set, level + 1));
            }
        }
        return 1 + below;
    }

    private boolean fits(TreeSet<Integer> set) {
        for (int item = 0; item < trades.size(); item++) {
            if (depth(item, set, 1) > 3) {
                return false;
            }
        }
        return true;
    }

    private int cheapest() {
        int best = -1;
        BigInteger least = null;
        for (int number = 0; number < 1 << itemSwaps.size(); number++) {
            TreeSet<Integer> set = new TreeSet<>();
            for (int variant = 0; variant < 4; variant++) {
                if ((number & 1 << variant) != 0) {
                    set.add(variant);
                }
            }
            if (fits(set) && (best < 0 || total(set).compareTo(least) < 0)) {
                best = number;
                least = total(set);
            }
        }
        return best;
    }

    // ---- the bill

    private static int measure(int[] row) {
        int a = row[3];
        int b = row[4];
        int size = row[1] == 'n' ? 1 : row[1] == 'l' ? a : row[1] == 'r' ? a * b
            : row[1] == 't' ? (int) Math.floor(a * b * 0.5) : row[1] == 'p' ? a + b + a + b : a * b * row[5];
        return row[2] * size;
    }

    private int quantity(int line) {
        return rows.stream().filter(row -> row[0] == line).mapToInt(Oracle::measure).sum();
    }

    // ---- amounts and costs: a list of needs, each with a resource, a trade and the units

    private static final class Need {
        final int resource;
        final int trade;
        final BigInteger units;

        Need(int resource, int trade, BigInteger units) {
            this.resource = resource;
            this.trade = trade;
            this.units = units;
        }
    }

    private void collect(int item, BigInteger times, TreeSet<Integer> set, List<Need> needs) {
        for (int[] component : components.get(item)) {
            BigInteger units = times.multiply(BigInteger.valueOf(component[2]));
            if (component[0] == 0) {
                collect(meant(itemSwaps, set, component[1]), units, set, needs);
            } else if (component[0] == 1) {
                needs.add(new Need(meant(resourceSwaps, set, component[1]), trades.get(item), units));
            } else {
                for (int[] member : crews.get(component[1])) {
                    needs.add(new Need(meant(resourceSwaps, set, member[0]), trades.get(item),
                        units.multiply(BigInteger.valueOf(member[1]))));
                }
            }
        }
    }

    private List<Need> ofItem(int item, TreeSet<Integer> set) {
        List<Need> needs = new ArrayList<>();
        collect(item, BigInteger.ONE, set, needs);
        return needs;
    }

    private List<Need> ofLine(int line, TreeSet<Integer> set) {
        List<Need> needs = new ArrayList<>();
        collect(meant(itemSwaps, set, lines.get(line)), BigInteger.valueOf(quantity(line)), set, needs);
        return needs;
    }

    private List<Need> ofAll(TreeSet<Integer> set) {
        List<Need> needs = new ArrayList<>();
        for (int line = 0; line < lines.size(); line++) {
            needs.addAll(ofLine(line, set));
        }
        return needs;
    }

    private static BigInteger sum(List<Need> needs, int resource) {
        BigInteger sum = BigInteger.ZERO;
        for (Need need : needs) {
            sum = need.resource == resource ? sum.add(need.units) : sum;
        }
        return sum;
    }

    /** A trade or a kind of -1 stands for all of them. */
    private BigInteger cost(List<Need> needs, int trade, int kind) {
        BigInteger sum = BigInteger.ZERO;
        for (Need need : needs) {
            int[] resource = resources.get(need.resource);
            if ((trade < 0 || need.trade == trade) && (kind < 0 || resource[0] == kind)) {
                sum = sum.add(need.units.multiply(BigInteger.valueOf(resource[1])));
            }
        }
        return sum;
    }

    private BigInteger net(TreeSet<Integer> set) {
        return cost(ofAll(set), -1, -1);
    }

    private static BigInteger roundedUp(BigInteger number, long divisor) {
        BigInteger[] parts = number.divideAndRemainder(BigInteger.valueOf(divisor));
        return parts[1].signum() == 0 ? parts[0] : parts[0].add(BigInteger.ONE);
    }

    private BigInteger packs(int resource, TreeSet<Integer> set) {
        BigInteger amount = sum(ofAll(set), resource);
        BigInteger waste = roundedUp(amount.multiply(BigInteger.valueOf(resources.get(resource)[2])), 100);
        return roundedUp(amount.add(waste), resources.get(resource)[3]);
    }

    private BigInteger extra(TreeSet<Integer> set) {
        BigInteger sum = BigInteger.ZERO;
        for (int k = 0; k < resources.size(); k++) {
            BigInteger bought = packs(k, set).multiply(BigInteger.valueOf(resources.get(k)[3]));
            BigInteger more = bought.subtract(sum(ofAll(set), k));
            sum = sum.add(more.multiply(BigInteger.valueOf(resources.get(k)[1])));
        }
        return sum;
    }

    private BigInteger markup(int number, TreeSet<Integer> set) {
        int[] markup = markups.get(number);
        BigInteger sum = BigInteger.ZERO;
        for (int bit = 0; bit < 4 + number; bit++) {
            if ((markup[1] & 1 << bit) != 0) {
                sum = sum.add(bit < 3 ? cost(ofAll(set), -1, bit) : bit == 3 ? extra(set) : markup(bit - 4, set));
            }
        }
        return sum.multiply(BigInteger.valueOf(markup[0])).divide(BigInteger.valueOf(100));
    }

    private BigInteger total(TreeSet<Integer> set) {
        BigInteger sum = net(set).add(extra(set));
        for (int k = 0; k < markups.size(); k++) {
            sum = sum.add(markup(k, set));
        }
        return sum;
    }

    private List<Integer> order() {
        List<Need> all = ofAll(on);
        List<BigInteger> costs = new ArrayList<>();
        List<Integer> order = new ArrayList<>();
        for (int k = 0; k < resources.size(); k++) {
            costs.add(sum(all, k).multiply(BigInteger.valueOf(resources.get(k)[1])));
            if (costs.get(k).signum() > 0) {
                order.add(k);
            }
        }
        order.sort((one, other) -> costs.get(other).compareTo(costs.get(one)));
        return order;
    }
}
