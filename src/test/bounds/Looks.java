import java.util.ArrayList;
import java.util.List;

/** All that can be seen of an object, in groups of calls so few that a full object has them left. */
final class Looks {

    private static final int PLACES = 80;

    static final List<List<Bounds.Call>> GROUPS = groups();

    private Looks() {
    }

    static String at(Used x, List<Bounds.Call> group) {
        StringBuilder text = new StringBuilder();
        for (Bounds.Call call : group) {
            text.append(answerOf(x, call)).append(' ');
        }
        return text.toString();
    }

    private static String answerOf(Used x, Bounds.Call call) {
        try {
            return Long.toString(call.ask(x));
        } catch (RuntimeException e) {
            return e.getClass().getSimpleName();
        }
    }

    private static List<List<Bounds.Call>> groups() {
        List<List<Bounds.Call>> groups = new ArrayList<>();
        groups.add(counts());
        groups.add(dictionary());
        for (int order = 0; order < 3; order++) {
            groups.add(triplesIn(order));
            groups.add(placesIn(order));
        }
        groups.add(answersKept(new ArrayList<>()));
        for (int way = 0; way < 3; way++) {
            int by = way;
            List<Bounds.Call> group = new ArrayList<>();
            group.add(x -> x.answerBy(by));
            groups.add(answersKept(group));
        }
        groups.add(goingOn());
        return groups;
    }

    private static List<Bounds.Call> counts() {
        List<Bounds.Call> group = new ArrayList<>();
        group.add(Used::triples);
        group.add(Used::terms);
        group.add(Used::patterns);
        group.add(Used::variables);
        group.add(Used::shape);
        group.add(Used::answers);
        group.add(x -> x.count(-1, -1, -1));
        group.add(x -> x.count(7, -1, -1));
        group.add(x -> x.count(-1, 8, 7));
        for (int k = -1; k <= 4; k++) {
            int index = k;
            group.add(x -> x.matches(index));
            group.add(x -> x.joined(index));
            group.add(x -> x.termsFor(index));
        }
        return group;
    }

    private static List<Bounds.Call> dictionary() {
        List<Bounds.Call> group = new ArrayList<>();
        for (int k = 0; k < 100; k++) {
            int term = k;
            group.add(x -> x.numberOf(term));
        }
        for (int k = 0; k <= 40; k++) {
            int number = k;
            group.add(x -> x.termOf(number));
        }
        return group;
    }

    private static List<Bounds.Call> triplesIn(int order) {
        List<Bounds.Call> group = new ArrayList<>();
        for (int k = 0; k <= 60; k++) {
            int place = k;
            group.add(x -> x.termAt(order, place, 0));
            group.add(x -> x.termAt(order, place, 1));
            group.add(x -> x.termAt(order, place, 2));
        }
        return group;
    }

    private static List<Bounds.Call> placesIn(int order) {
        List<Bounds.Call> group = new ArrayList<>();
        for (int k = 0; k < 100; k++) {
            int term = k;
            group.add(x -> x.seek(order, term));
        }
        return group;
    }

    /** The first answers one by one, and of the later ones some, up to the last that there can be and one beyond. */
    private static List<Bounds.Call> answersKept(List<Bounds.Call> group) {
        group.add(Used::answers);
        for (int k = 0; k <= PLACES; k++) {
            int place = k < PLACES / 2 ? k : 2000 - (PLACES - k) * (PLACES - k);
            for (int v = 0; v < 4; v++) {
                int variable = v;
                group.add(x -> x.answer(place, variable));
            }
        }
        return group;
    }

    /** Calls that change the object: what cannot be seen yet would show in what they answer. */
    private static List<Bounds.Call> goingOn() {
        List<Bounds.Call> group = new ArrayList<>();
        group.add(x -> x.addPattern(-1, -1, -3));
        group.add(Used::answerByVariables);
        group.add(x -> x.state(7, 8, 7));
        group.add(x -> x.state(96, 97, 98));
        group.add(x -> x.numberOf(96));
        group.add(x -> x.numberOf(98));
        group.add(x -> x.takeBack(7, 8, 9));
        group.add(x -> x.takeBack(3, 3, 3));
        group.add(x -> x.state(96, 97, 98));
        group.add(x -> x.joined(0));
        group.add(Used::forget);
        group.add(x -> x.addPattern(-4, -2, -3));
        group.add(Used::answerByMerging);
        group.add(x -> x.answer(0, 3));
        group.add(x -> x.answer(1, 2));
        group.add(x -> x.answer(2, 1));
        group.add(x -> x.addPattern(-1, -2, -1));
        group.add(Used::answerByLoops);
        return group;
    }
}
