import java.util.List;
import java.util.function.Consumer;

/**
 * What only asks leaves all as it is and answers for what is now: behind any other question, and behind each change,
 * every question is answered as by an object of which nothing was asked.
 */
public final class AskingTest {
    private static final List<Consumer<StarchGarrison>> CHANGES = List.of(
            x -> x.starch(1, 0, 2),
            x -> x.iron(2, 3),
            x -> x.image(0),
            x -> x.starch(0, 5, 1),
            x -> x.undo(),
            x -> x.starch(2, 4, 9),
            x -> x.anew(),
            x -> x.rate(1, 55),
            x -> x.iron(0, 0),
            x -> x.anew(),
            x -> x.rate(0, 1),
            x -> x.back(0),
            x -> tell(x, Edges.head(9, 0, 0, 9, 9, 9) + Edges.man(30, 3, 20) + Edges.man(40, 4, 4) + Edges.man(9, 0, 10)),
            x -> x.iron(0, 8),
            x -> x.garrison(),
            x -> x.back(0),
            x -> tell(x, Edges.head(6, 3, 2, 1, 1, 1) + Edges.man(12, 0, 13) + Edges.boiled(99, 9, 60)));
    private static final Edges edges = new Edges();

    public static void main(String[] args) {
        List<Asked> questions = Asked.all().stream().filter(Asked::onlyAsks).toList();
        for (Asked question : questions) {
            for (Asked other : questions) {
                behind(question, other);
            }
            for (int changes = 1; changes <= CHANGES.size(); changes++) {
                for (int askedAt = 0; askedAt < changes; askedAt++) {
                    behindChanges(question, askedAt, changes);
                }
            }
        }
        edges.finish("AskingTest", 6, 60);
    }

    private static void tell(StarchGarrison x, String text) {
        Checks.put(x, text);
        x.garrison();
    }

    private static StarchGarrison start() {
        StarchGarrison x = Checks.told(Edges.head(8, 2, 1, 20, 3, 5) + Edges.man(50, 5, 30) + Edges.boiled(40, 3, 20) + Edges.man(80, 2, 35)
                + Edges.rain(5, 1, 2) + Edges.heat(1, 2, 3) + Edges.frost(5, 5));
        x.row(0, 0, 0);
        x.row(3, 0, 6);
        return x;
    }

    private static void behind(Asked question, Asked other) {
        int[][] arguments = {question.plain(), question.greatest(3, 8)};
        for (int[] values : arguments) {
            long alone = question.answer(start(), values);
            StarchGarrison x = start();
            other.answer(x, other.plain());
            edges.due(question.promise, question.name(values) + " behind " + other.name(other.plain()), question.answer(x, values), alone);
            other.answer(x, other.greatest(3, 8));
            edges.due(question.promise, question.name(values) + " behind another", question.answer(x, values), alone);
        }
    }

    /** The question is asked once ahead of one of the changes, and behind all of them. */
    private static void behindChanges(Asked question, int askedAt, int changes) {
        StarchGarrison fresh = start();
        StarchGarrison asked = start();
        for (int i = 0; i < changes; i++) {
            if (i == askedAt) {
                question.answer(asked, question.plain());
            }
            CHANGES.get(i).accept(fresh);
            CHANGES.get(i).accept(asked);
        }
        int[][] arguments = {question.plain(), question.greatest(2, 6)};
        for (int[] values : arguments) {
            String call = question.name(values) + " behind " + changes + " changes, asked ahead of number " + askedAt;
            edges.due(question.promise, call, question.answer(asked, values), question.answer(fresh, values));
        }
    }
}
