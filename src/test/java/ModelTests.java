import java.util.ArrayList;
import java.util.HashSet;
import java.util.List;
import java.util.Random;
import java.util.Set;

/** Compares long runs of calls, good and bad, with a model that is written from the document in its plainest words. */
public final class ModelTests {

    private static final int RUNS = 1500;
    /** The document promises nothing about an object after so many. */
    private static final int CALLS = 512;

    private static final int BAD = 1_000_001;
    private static final int OUT = 1_000_002;
    private static final int NOT_NOW = 1_000_003;
    private static final int STRANGE = 1_000_004;

    private static final String[] NAMES = {"state", "takeBack", "triples", "termAt", "terms", "numberOf", "termOf",
        "count", "orderFor", "seek", "forget", "addPattern", "patterns", "matches", "variables", "shape", "joined",
        "answerByMerging", "answerByVariables", "answerByLoops", "answers", "answer", "termsFor"};

    /** How often each call comes, by the mood of the run: growing, shrinking, asking. */
    private static final int[][] MOODS = {
        {40, 4, 1, 10, 1, 3, 3, 6, 1, 6, 4, 10, 1, 6, 1, 4, 6, 5, 5, 5, 1, 12, 3},
        {20, 15, 1, 12, 1, 3, 3, 8, 1, 6, 3, 10, 1, 6, 1, 4, 6, 5, 5, 5, 1, 12, 3},
        {12, 1, 1, 3, 1, 1, 1, 3, 1, 2, 8, 25, 1, 8, 2, 6, 10, 8, 8, 8, 2, 25, 6}};

    /** The document, with a list for the triples, a list for the terms, and all assignments tried. */
    private static final class Model {
        final List<int[]> triples = new ArrayList<>();
        final List<Integer> terms = new ArrayList<>();
        final List<int[]> patterns = new ArrayList<>();
        List<int[]> kept = new ArrayList<>();
        int keptVariables = 0;

        static boolean in(int value, int low, int high) {
            return value >= low && value <= high;
        }

        static boolean allIn(int low, int a, int b, int c) {
            return in(a, low, 99) && in(b, low, 99) && in(c, low, 99);
        }

        int indexOf(int s, int p, int o) {
            for (int k = 0; k < triples.size(); k++) {
                int[] t = triples.get(k);
                if (t[0] == s && t[1] == p && t[2] == o) {
                    return k;
                }
            }
            return -1;
        }

        int state(int s, int p, int o) {
            if (!allIn(0, s, p, o)) {
                return BAD;
            }
            if (indexOf(s, p, o) >= 0) {
                return 0;
            }
            List<Integer> grown = new ArrayList<>(terms);
            for (int term : new int[] {s, p, o}) {
                if (!grown.contains(term)) {
                    grown.add(term);
                }
            }
            if (triples.size() == 60 || grown.size() > 40) {
                return NOT_NOW;
            }
            terms.clear();
            terms.addAll(grown);
            triples.add(new int[] {s, p, o});
            return 1;
        }

        int takeBack(int s, int p, int o) {
            if (!allIn(0, s, p, o)) {
                return BAD;
            }
            int k = indexOf(s, p, o);
            if (k >= 0) {
                triples.remove(k);
            }
            return k >= 0 ? 1 : 0;
        }

        List<int[]> ordered(int order) {
            List<int[]> list = new ArrayList<>(triples);
            int[][] parts = {{0, 1, 2}, {1, 2, 0}, {2, 0, 1}};
            list.sort((a, b) -> {
                for (int part : parts[order]) {
                    if (a[part] != b[part]) {
                        return terms.indexOf(a[part]) - terms.indexOf(b[part]);
                    }
                }
                return 0;
            });
            return list;
        }

        int termAt(int order, int place, int part) {
            if (!in(order, 0, 2) || !in(part, 0, 2)) {
                return BAD;
            }
            return in(place, 0, triples.size() - 1) ? ordered(order).get(place)[part] : OUT;
        }

        int count(int s, int p, int o) {
            if (!allIn(-1, s, p, o)) {
                return BAD;
            }
            int count = 0;
            for (int[] t : triples) {
                if ((s == -1 || t[0] == s) && (p == -1 || t[1] == p) && (o == -1 || t[2] == o)) {
                    count++;
                }
            }
            return count;
        }

        /** An order is fit if the parts told are the ones that it goes by first. */
        static int orderFor(boolean s, boolean p, boolean o) {
            boolean[] told = {s, p, o};
            int howMany = (s ? 1 : 0) + (p ? 1 : 0) + (o ? 1 : 0);
            for (int order = 0; order < 3; order++) {
                boolean fit = true;
                for (int k = 0; k < howMany; k++) {
                    fit = fit && told[(order + k) % 3];
                }
                if (fit) {
                    return order;
                }
            }
            return -1;
        }

        int seek(int order, int term) {
            if (!in(order, 0, 2) || !in(term, 0, 99)) {
                return BAD;
            }
            if (!terms.contains(term)) {
                return NOT_NOW;
            }
            List<int[]> list = ordered(order);
            for (int place = 0; place < list.size(); place++) {
                if (terms.indexOf(list.get(place)[order]) >= terms.indexOf(term)) {
                    return place;
                }
            }
            return list.size();
        }

        int addPattern(int s, int p, int o) {
            if (!allIn(-4, s, p, o)) {
                return BAD;
            }
            if (patterns.size() == 3) {
                return NOT_NOW;
            }
            patterns.add(new int[] {s, p, o});
            return patterns.size() - 1;
        }

        static boolean matches(int[] pattern, int[] triple) {
            for (int a = 0; a < 3; a++) {
                if (pattern[a] >= 0 && pattern[a] != triple[a]) {
                    return false;
                }
                for (int b = 0; b < 3; b++) {
                    if (pattern[a] < 0 && pattern[a] == pattern[b] && triple[a] != triple[b]) {
                        return false;
                    }
                }
            }
            return true;
        }

        int matches(int pattern) {
            if (!in(pattern, 0, patterns.size() - 1)) {
                return OUT;
            }
            int count = 0;
            for (int[] triple : triples) {
                count += matches(patterns.get(pattern), triple) ? 1 : 0;
            }
            return count;
        }

        static int variables(int[] pattern) {
            int bits = 0;
            for (int part : pattern) {
                bits |= part < 0 ? 1 << (-1 - part) : 0;
            }
            return bits;
        }

        int variables() {
            int bits = 0;
            for (int[] pattern : patterns) {
                bits |= variables(pattern);
            }
            return bits;
        }

        int shape() {
            if (patterns.size() < 2) {
                return 0;
            }
            boolean star = true;
            boolean chain = true;
            for (int k = 0; k < patterns.size(); k++) {
                star &= patterns.get(k)[0] < 0 && patterns.get(k)[0] == patterns.get(0)[0];
                chain &= k == 0 || patterns.get(k - 1)[2] < 0 && patterns.get(k - 1)[2] == patterns.get(k)[0];
            }
            return (star ? 1 : 0) + (chain ? 2 : 0);
        }

        int joined(int place) {
            if (!in(place, 0, patterns.size() - 1)) {
                return OUT;
            }
            List<Integer> left = new ArrayList<>();
            for (int k = 0; k < patterns.size(); k++) {
                left.add(k);
            }
            int came = 0;
            for (int step = 0; ; step++) {
                List<Integer> of = new ArrayList<>();
                for (int k : left) {
                    if ((variables(patterns.get(k)) & came) != 0) {
                        of.add(k);
                    }
                }
                if (of.isEmpty()) {
                    of = left;
                }
                int fewest = of.get(0);
                for (int k : of) {
                    fewest = matches(k) < matches(fewest) ? k : fewest;
                }
                if (step == place) {
                    return fewest;
                }
                left.remove(Integer.valueOf(fewest));
                came |= variables(patterns.get(fewest));
            }
        }

        int answerIt() {
            if (patterns.isEmpty()) {
                return NOT_NOW;
            }
            Set<Integer> all = new HashSet<>();
            for (int[] t : triples) {
                all.add(t[0] * 10000 + t[1] * 100 + t[2]);
            }
            List<int[]> found = new ArrayList<>();
            assign(all, found, 0, new int[] {-1, -1, -1, -1});
            if (found.size() > 2000) {
                return NOT_NOW;
            }
            kept = found;
            keptVariables = variables();
            return found.size();
        }

        /** Tries the terms by their numbers for one variable after the other, so the answers come in their order. */
        void assign(Set<Integer> all, List<int[]> found, int variable, int[] now) {
            if (found.size() > 2000 || !possible(all, now)) {
                return;
            }
            if (variable == 4) {
                found.add(now.clone());
            } else if ((variables() >> variable & 1) == 0) {
                assign(all, found, variable + 1, now);
            } else {
                for (int term : terms) {
                    now[variable] = term;
                    assign(all, found, variable + 1, now);
                }
                now[variable] = -1;
            }
        }

        /** Whether each pattern that has no variable left is a triple. */
        boolean possible(Set<Integer> all, int[] now) {
            for (int[] pattern : patterns) {
                int key = 0;
                boolean whole = true;
                for (int part : pattern) {
                    int term = part < 0 ? now[-1 - part] : part;
                    whole &= term >= 0;
                    key = key * 100 + term;
                }
                if (whole && !all.contains(key)) {
                    return false;
                }
            }
            return true;
        }

        int answer(int place, int variable) {
            if (!in(place, 0, kept.size() - 1)) {
                return OUT;
            }
            return in(variable, 0, 3) && (keptVariables >> variable & 1) != 0 ? kept.get(place)[variable] : BAD;
        }

        int termsFor(int variable) {
            if (!in(variable, 0, 3)) {
                return BAD;
            }
            Set<Integer> unlike = new HashSet<>();
            for (int[] answer : kept) {
                if ((keptVariables >> variable & 1) != 0) {
                    unlike.add(answer[variable]);
                }
            }
            return unlike.size();
        }

        int call(int which, int a, int b, int c) {
            switch (which) {
                case 0: return state(a, b, c);
                case 1: return takeBack(a, b, c);
                case 2: return triples.size();
                case 3: return termAt(a, b, c);
                case 4: return terms.size();
                case 5: return in(a, 0, 99) ? terms.indexOf(a) : BAD;
                case 6: return in(a, 0, terms.size() - 1) ? terms.get(a) : OUT;
                case 7: return count(a, b, c);
                case 8: return orderFor(a % 2 == 0, b % 2 == 0, c % 2 == 0);
                case 9: return seek(a, b);
                case 10: int before = patterns.size(); patterns.clear(); return before;
                case 11: return addPattern(a, b, c);
                case 12: return patterns.size();
                case 13: return matches(a);
                case 14: return variables();
                case 15: return shape();
                case 16: return joined(a);
                case 17: case 18: case 19: return answerIt();
                case 20: return kept.size();
                case 21: return answer(a, b);
                default: return termsFor(a);
            }
        }
    }

    private static int ask(TripleJoins x, int which, int a, int b, int c) {
        switch (which) {
            case 0: return x.state(a, b, c) ? 1 : 0;
            case 1: return x.takeBack(a, b, c) ? 1 : 0;
            case 2: return x.triples();
            case 3: return x.termAt(a, b, c);
            case 4: return x.terms();
            case 5: return x.numberOf(a);
            case 6: return x.termOf(a);
            case 7: return x.count(a, b, c);
            case 8: return x.orderFor(a % 2 == 0, b % 2 == 0, c % 2 == 0);
            case 9: return x.seek(a, b);
            case 10: return x.forget();
            case 11: return x.addPattern(a, b, c);
            case 12: return x.patterns();
            case 13: return x.matches(a);
            case 14: return x.variables();
            case 15: return x.shape();
            case 16: return x.joined(a);
            case 17: return x.answerByMerging();
            case 18: return x.answerByVariables();
            case 19: return x.answerByLoops();
            case 20: return x.answers();
            case 21: return x.answer(a, b);
            default: return x.termsFor(a);
        }
    }

    /** What the machine throws is of other classes than what the document names, so it counts as strange. */
    private static int call(TripleJoins x, int which, int a, int b, int c) {
        try {
            return ask(x, which, a, b, c);
        } catch (RuntimeException e) {
            if (e.getClass() == IllegalArgumentException.class) {
                return BAD;
            }
            if (e.getClass() == IndexOutOfBoundsException.class) {
                return OUT;
            }
            return e.getClass() == IllegalStateException.class ? NOT_NOW : STRANGE;
        }
    }

    private final Random random;
    private final int[] vocabulary;
    private final int[] mood;
    private final Model model = new Model();

    private ModelTests(int run) {
        random = new Random(run * 7919L + 17);
        int[] sizes = {2, 3, 4, 6, 9, 14, 25, 45};
        vocabulary = new int[sizes[run % sizes.length]];
        for (int k = 0; k < vocabulary.length; k++) {
            vocabulary[k] = random.nextInt(100);
        }
        mood = MOODS[random.nextInt(MOODS.length)];
    }

    private int pickCall() {
        int sum = 0;
        for (int weight : mood) {
            sum += weight;
        }
        int left = random.nextInt(sum);
        int which = 0;
        while (left >= mood[which]) {
            left -= mood[which];
            which++;
        }
        return which;
    }

    private int wild() {
        int[] wilds = {-1, -2, -4, -5, -6, 3, 4, 39, 40, 60, 63, 64, 99, 100, 101, 127, 1999, 2000, 4096, 1 << 18,
            Integer.MIN_VALUE, Integer.MIN_VALUE + 1, Integer.MAX_VALUE, Integer.MAX_VALUE - 1};
        return wilds[random.nextInt(wilds.length)];
    }

    private int below(int bound) {
        return random.nextInt(Math.max(bound, 1) + 1);
    }

    private int term() {
        return random.nextInt(40) == 0 ? wild() : vocabulary[random.nextInt(vocabulary.length)];
    }

    private int argument(int which, int at) {
        if (random.nextInt(60) == 0) {
            return wild();
        }
        switch (which) {
            case 3: return at == 1 ? below(model.triples.size()) : random.nextInt(3);
            case 6: return below(model.terms.size());
            case 7: return random.nextInt(2) == 0 ? -1 : term();
            case 8: return random.nextInt(2);
            case 9: return at == 0 ? random.nextInt(3) : term();
            case 11: return random.nextInt(5) < 3 ? -1 - random.nextInt(4) : term();
            case 13: case 16: return random.nextInt(8) == 0 ? below(3) : below(model.patterns.size() - 1);
            case 21: return at == 0 ? below(model.kept.size()) : random.nextInt(4);
            case 22: return random.nextInt(4);
            default: return term();
        }
    }

    /** Most patterns have a predicate that is told, as callers ask; else small queries would have too many answers. */
    private int[] arguments(int which) {
        int[] arguments = {argument(which, 0), argument(which, 1), argument(which, 2)};
        if (which == 1 && !model.triples.isEmpty() && random.nextInt(3) > 0) {
            return model.triples.get(random.nextInt(model.triples.size())).clone();
        }
        if (which == 11 && random.nextInt(2) == 0) {
            arguments[1] = term();
        }
        return arguments;
    }

    private boolean run(int number) {
        TripleJoins x = new TripleJoins();
        for (int k = 0; k < CALLS; k++) {
            int which = pickCall();
            int[] a = arguments(which);
            int want = model.call(which, a[0], a[1], a[2]);
            int got = call(x, which, a[0], a[1], a[2]);
            if (got != want) {
                System.out.println("run " + number + ", call " + k + ": " + NAMES[which] + "(" + a[0] + ", " + a[1]
                        + ", " + a[2] + ") answered " + got + ", due is " + want + " (from " + BAD
                        + " on: IllegalArgument, IndexOutOfBounds, IllegalState, another)");
                return false;
            }
        }
        return true;
    }

    public static void main(String[] args) {
        int wrong = 0;
        for (int run = 0; run < RUNS; run++) {
            wrong += new ModelTests(run).run(run) ? 0 : 1;
        }
        System.out.println("ModelTests: " + RUNS + " runs, " + wrong + " of them not as due");
        if (wrong != 0) {
            System.exit(1);
        }
    }
}
