import java.util.ArrayList;
import java.util.List;
import java.util.function.Supplier;

/**
 * Every argument that the document bounds: its least and its greatest are not refused, the numbers just outside them
 * are, by the promise's own answer, and a refused call leaves all as it was.
 */
public final class BoundsTest {
    private static final Edges edges = new Edges();

    private final Asked asked;
    private final int promise;
    private final long refusal;
    private final String kinds;

    private BoundsTest(Asked asked) {
        this.asked = asked;
        promise = asked.promise;
        refusal = asked.refusal;
        kinds = asked.kinds;
    }

    public static void main(String[] args) {
        for (Asked asked : Asked.all()) {
            BoundsTest test = new BoundsTest(asked);
            test.withoutGarrison();
            test.withoutMen();
            test.of(1, 1);
            test.of(3, 8);
            test.of(6, 24);
            test.refusalsLeaveAll();
        }
        imagesAndSlots();
        edges.finish("BoundsTest", 6, 67);
    }

    private static StarchGarrison withRows(StarchGarrison x) {
        for (int slot = 0; slot < 4; slot++) {
            x.row(slot, slot, 0);
        }
        return x;
    }

    private static StarchGarrison garrison(int men, int hours) {
        String[] lines = Edges.six(hours).split("(?<=;)");
        StringBuilder text = new StringBuilder();
        for (int i = 0; i < lines.length; i++) {
            text.append(i >= 1 + men && i < 7 ? "" : lines[i]);
        }
        return withRows(Checks.told(text.toString()));
    }

    private void withoutGarrison() {
        edges.due(promise, "no GARRISON " + asked.name(asked.plain()), asked.answer(withRows(new StarchGarrison()), asked.plain()), refusal);
        StarchGarrison emptied = garrison(3, 8);
        emptied.iron(0, 0);
        emptied.garrison();
        edges.due(promise, "no GARRISON any more " + asked.name(asked.plain()), asked.answer(emptied, asked.plain()), refusal);
    }

    private void withoutMen() {
        long got = asked.answer(garrison(0, 8), asked.plain());
        boolean asksForOne = kinds.indexOf('m') >= 0;
        edges.due(promise, "no MEN " + asked.name(asked.plain()) + " is refused", got == refusal ? 1 : 0, asksForOne ? 1 : 0);
    }

    private static int[] outside(int low, int high) {
        int[] other = {low - 1, high + 1, Integer.MIN_VALUE, Integer.MAX_VALUE, low - 256, high + 32, high + 64, high + 256,
            low + Integer.MIN_VALUE};
        List<Integer> outside = new ArrayList<>();
        for (int value : other) {
            if (value < low || value > high) {
                outside.add(value);
            }
        }
        return outside.stream().mapToInt(Integer::intValue).toArray();
    }

    private void of(int men, int hours) {
        if (kinds.indexOf('o') >= 0 && men < 2) {
            edges.due(promise, "one MAN alone " + asked.name(asked.plain()), asked.answer(garrison(men, hours), asked.plain()), refusal);
            return;
        }
        for (int i = 0; i < kinds.length(); i++) {
            char kind = kinds.charAt(i);
            int low = kind == 'o' ? 1 : Asked.least(kind);
            int high = Asked.greatest(kind, men, hours);
            int[] values = asked.plain();
            for (int value : new int[] {low, high}) {
                values[i] = value;
                boolean twice = kinds.startsWith("mo") && values[0] == values[1];
                if (!twice) {
                    long got = asked.answer(garrison(men, hours), values);
                    edges.due(promise, men + " MEN " + hours + " HOURS " + asked.name(values) + " is refused", got == refusal ? 1 : 0, 0);
                }
            }
            int lowest = kind == 'o' ? 0 : low;
            for (int value : outside(lowest, high)) {
                values[i] = value;
                edges.due(promise, men + " MEN " + hours + " HOURS " + asked.name(values), asked.answer(garrison(men, hours), values), refusal);
            }
        }
        if (kinds.isEmpty()) {
            edges.due(promise, asked.name(asked.plain()) + " is refused", asked.answer(garrison(men, hours), asked.plain()) == refusal ? 1 : 0, 0);
        }
    }

    private void refusalsLeaveAll() {
        Supplier<StarchGarrison> maker = Edges::full;
        for (int i = 0; i < kinds.length(); i++) {
            char kind = kinds.charAt(i);
            int[] below = asked.plain();
            below[i] = Asked.least(kind) - 1;
            edges.refused(promise, asked.name(below), maker, x -> asked.answer(x, below), refusal);
            int[] above = asked.plain();
            above[i] = Asked.greatest(kind, 3, 6) + 1;
            edges.refused(promise, asked.name(above), maker, x -> asked.answer(x, above), refusal);
        }
    }

    private static void imagesAndSlots() {
        for (int k : new int[] {-1, 3, Integer.MIN_VALUE, Integer.MAX_VALUE, 32}) {
            edges.refused(69, "image(" + k + ")", Edges::full, x -> x.image(k), -2);
            edges.refused(70, "back(" + k + ")", Edges::full, x -> x.back(k), -2);
        }
        for (int slot : new int[] {-1, 4, Integer.MIN_VALUE, Integer.MAX_VALUE, 32}) {
            edges.refused(71, "row(" + slot + ", 0, 1)", Edges::full, x -> x.row(slot, 0, 1), -2);
            edges.refused(71, "row(0, " + slot + ", 1)", Edges::full, x -> x.row(0, slot, 1), -2);
            edges.refused(72, "write(" + slot + ", 0, 1)", Edges::full, x -> x.write(slot, 0, 1), -2);
            edges.refused(73, "paste(" + slot + ", 0, 0, 0, 1)", Edges::full, x -> x.paste(slot, 0, 0, 0, 1), -2);
            edges.refused(73, "paste(0, 0, " + slot + ", 0, 1)", Edges::full, x -> x.paste(0, 0, slot, 0, 1), -2);
        }
        for (int slot = 0; slot < 4; slot++) {
            edges.due(71, "row of SLOT " + slot, new StarchGarrison().row(slot, 0, 1), 0);
            edges.due(71, "row of WIDTH " + slot, new StarchGarrison().row(0, slot, 60), 0);
        }
    }
}
