/** Tests each promise of the document by itself: ordinary inputs, the edges that it names, and wrong inputs. */
public final class PromiseTests {

    private static final int MIN = Integer.MIN_VALUE;
    private static final int MAX = Integer.MAX_VALUE;

    private static final Class<?> BAD = IllegalArgumentException.class;
    private static final Class<?> OUT = IndexOutOfBoundsException.class;
    private static final Class<?> NOT_NOW = IllegalStateException.class;

    private static int right = 0;
    private static int wrong = 0;
    private static String promise = "";

    private interface Call {
        long ask();
    }

    private interface Test {
        void run(TripleJoins x);
    }

    public static void main(String[] args) {
        test("1 new object", PromiseTests::newObject);
        test("2 state", PromiseTests::state);
        test("2 state: the range", PromiseTests::stateRange);
        test("2 state: 60 triples", PromiseTests::stateSixtyTriples);
        test("2 state: 40 terms", PromiseTests::stateFortyTerms);
        test("3 takeBack", PromiseTests::takeBack);
        test("4 triples", PromiseTests::triples);
        test("5 termAt", PromiseTests::termAt);
        test("5 termAt: wrong inputs", PromiseTests::termAtWrong);
        test("6 terms", PromiseTests::terms);
        test("7 numberOf", PromiseTests::numberOf);
        test("8 termOf", PromiseTests::termOf);
        test("9 count", PromiseTests::count);
        test("10 orderFor", PromiseTests::orderFor);
        test("11 seek", PromiseTests::seek);
        test("12 forget", PromiseTests::forget);
        test("13 addPattern", PromiseTests::addPattern);
        test("13 addPattern: a term not yet in the dictionary", PromiseTests::addPatternNewTerm);
        test("14 patterns", PromiseTests::patterns);
        test("15 matches", PromiseTests::matches);
        test("16 variables", PromiseTests::variables);
        test("17 shape", PromiseTests::shape);
        test("18 joined", PromiseTests::joined);
        test("18 joined: sharing goes ahead of fewer", PromiseTests::joinedSharing);
        for (int way = 0; way < 3; way++) {
            int by = way;
            String name = (19 + way) + " " + new String[] {"answerByMerging", "answerByVariables", "answerByLoops"}[way];
            test(name, x -> answering(x, by));
            test(name + ": no variables", x -> answeringWithoutVariables(x, by));
            test(name + ": the order of the answers", x -> answersSorted(x, by));
            test(name + ": a variable that stands twice", x -> answeringRepeated(x, by));
            test(name + ": 2000 answers", x -> answeringLimit(x, by));
            test(name + ": many rows on the way", x -> answeringWide(x, by));
            test(name + ": what throws changes nothing", x -> answeringThrows(x, by));
        }
        test("22 answers", PromiseTests::answers);
        test("23 answer", PromiseTests::answer);
        test("24 termsFor", PromiseTests::termsFor);
        System.out.println("PromiseTests: " + right + " answers as due, " + wrong + " not");
        if (wrong != 0) {
            System.exit(1);
        }
    }

    private static void test(String name, Test test) {
        promise = name;
        try {
            test.run(new TripleJoins());
        } catch (RuntimeException e) {
            wrong++;
            System.out.println("promise " + promise + ": stopped by " + e);
        }
    }

    private static void due(String call, long got, long want) {
        if (got == want) {
            right++;
        } else {
            wrong++;
            System.out.println("promise " + promise + ": " + call + " answered " + got + ", due is " + want);
        }
    }

    private static void due(String call, boolean got, boolean want) {
        due(call, got ? 1 : 0, want ? 1 : 0);
    }

    /** The very class is asked for: the machine's ArrayIndexOutOfBoundsException is an IndexOutOfBoundsException too. */
    private static void dueThrow(String call, Call asked, Class<?> want) {
        String got;
        try {
            got = "answered " + asked.ask();
        } catch (RuntimeException e) {
            if (e.getClass() == want) {
                right++;
                return;
            }
            got = "threw " + e;
        }
        wrong++;
        System.out.println("promise " + promise + ": " + call + " " + got + ", due is " + want.getSimpleName());
    }

    private static int answerBy(TripleJoins x, int way) {
        return way == 0 ? x.answerByMerging() : way == 1 ? x.answerByVariables() : x.answerByLoops();
    }

    private static void dueAnswer(TripleJoins x, int place, int variables, int... terms) {
        for (int variable = 0; variable < terms.length; variable++) {
            int asked = variable;
            if ((variables >> variable & 1) != 0) {
                due("answer(" + place + ", " + variable + ")", x.answer(place, variable), terms[variable]);
            } else {
                dueThrow("answer(" + place + ", " + variable + ")", () -> x.answer(place, asked), BAD);
            }
        }
    }

    // ---- triples

    private static void newObject(TripleJoins x) {
        due("triples()", x.triples(), 0);
        due("terms()", x.terms(), 0);
        due("patterns()", x.patterns(), 0);
        due("variables()", x.variables(), 0);
        due("shape()", x.shape(), 0);
        due("answers()", x.answers(), 0);
        due("count(-1, -1, -1)", x.count(-1, -1, -1), 0);
        for (int term = 0; term < 100; term++) {
            due("numberOf(" + term + ")", x.numberOf(term), -1);
        }
        for (int variable = 0; variable < 4; variable++) {
            due("termsFor(" + variable + ")", x.termsFor(variable), 0);
        }
        dueThrow("termOf(0)", () -> x.termOf(0), OUT);
        dueThrow("termAt(0, 0, 0)", () -> x.termAt(0, 0, 0), OUT);
        dueThrow("answer(0, 0)", () -> x.answer(0, 0), OUT);
        due("forget()", x.forget(), 0);
    }

    private static void state(TripleJoins x) {
        due("state(0, 99, 50)", x.state(0, 99, 50), true);
        due("state(0, 99, 50) again", x.state(0, 99, 50), false);
        due("triples()", x.triples(), 1);
        due("state(50, 0, 99)", x.state(50, 0, 99), true);
        due("state(50, 99, 0)", x.state(50, 99, 0), true);
        due("triples()", x.triples(), 3);
        due("numberOf(0)", x.numberOf(0), 0);
        due("numberOf(99)", x.numberOf(99), 1);
        due("numberOf(50)", x.numberOf(50), 2);
        due("terms()", x.terms(), 3);
        due("state(7, 7, 8)", x.state(7, 7, 8), true);
        due("state(9, 8, 9)", x.state(9, 8, 9), true);
        due("numberOf(8)", x.numberOf(8), 4);
        due("numberOf(9)", x.numberOf(9), 5);
    }

    private static void stateRange(TripleJoins x) {
        for (int term : new int[] {-1, -2, 100, 101, MIN, MAX}) {
            dueThrow("state(" + term + ", 0, 0)", () -> x.state(term, 0, 0) ? 1 : 0, BAD);
            dueThrow("state(0, " + term + ", 0)", () -> x.state(0, term, 0) ? 1 : 0, BAD);
            dueThrow("state(0, 0, " + term + ")", () -> x.state(0, 0, term) ? 1 : 0, BAD);
        }
        due("triples()", x.triples(), 0);
        due("terms()", x.terms(), 0);
    }

    private static void stateSixtyTriples(TripleJoins x) {
        for (int k = 0; k < 60; k++) {
            due("state " + k, x.state(k / 10, k % 10, 7), true);
        }
        dueThrow("the 61st triple", () -> x.state(9, 9, 9) ? 1 : 0, NOT_NOW);
        dueThrow("the 61st triple with a new term", () -> x.state(9, 9, 99) ? 1 : 0, NOT_NOW);
        dueThrow("a wrong term when full", () -> x.state(9, 9, 100) ? 1 : 0, BAD);
        due("a triple that is there", x.state(5, 9, 7), false);
        due("numberOf(99)", x.numberOf(99), -1);
        due("triples()", x.triples(), 60);
        due("terms()", x.terms(), 10);
        due("count(-1, -1, -1)", x.count(-1, -1, -1), 60);
        due("takeBack(0, 0, 7)", x.takeBack(0, 0, 7), true);
        due("state(9, 9, 99)", x.state(9, 9, 99), true);
        due("triples()", x.triples(), 60);
        due("numberOf(99)", x.numberOf(99), 10);
    }

    private static void stateFortyTerms(TripleJoins x) {
        for (int k = 0; k < 12; k++) {
            x.state(3 * k, 3 * k + 1, 3 * k + 2);
        }
        due("terms()", x.terms(), 36);
        x.state(36, 36, 37);
        due("terms()", x.terms(), 38);
        dueThrow("three new terms of two left", () -> x.state(97, 98, 99) ? 1 : 0, NOT_NOW);
        due("numberOf(97)", x.numberOf(97), -1);
        due("terms()", x.terms(), 38);
        due("two unlike of three new", x.state(98, 99, 98), true);
        due("terms()", x.terms(), 40);
        due("numberOf(99)", x.numberOf(99), 39);
        dueThrow("one new term", () -> x.state(0, 0, 40) ? 1 : 0, NOT_NOW);
        dueThrow("one new term thrice", () -> x.state(40, 40, 40) ? 1 : 0, NOT_NOW);
        due("triples()", x.triples(), 14);
        due("no new term", x.state(99, 99, 99), true);
        due("a triple that is there", x.state(98, 99, 98), false);
    }

    private static void takeBack(TripleJoins x) {
        due("takeBack(1, 2, 3)", x.takeBack(1, 2, 3), false);
        due("terms()", x.terms(), 0);
        x.state(1, 2, 3);
        x.state(3, 2, 1);
        x.state(1, 1, 1);
        due("takeBack(2, 1, 3)", x.takeBack(2, 1, 3), false);
        due("takeBack(1, 2, 99)", x.takeBack(1, 2, 99), false);
        due("takeBack(1, 2, 3)", x.takeBack(1, 2, 3), true);
        due("takeBack(1, 2, 3) again", x.takeBack(1, 2, 3), false);
        due("triples()", x.triples(), 2);
        due("terms()", x.terms(), 3);
        due("numberOf(99)", x.numberOf(99), -1);
        for (int order = 0; order < 3; order++) {
            due("the first in order " + order, x.termAt(order, 0, 0), 1);
            due("the second in order " + order, x.termAt(order, 1, 0), 3);
        }
        due("state(1, 2, 3) anew", x.state(1, 2, 3), true);
        due("numberOf(1)", x.numberOf(1), 0);
        for (int term : new int[] {-1, 100, MIN, MAX}) {
            dueThrow("takeBack(" + term + ", 0, 0)", () -> x.takeBack(term, 0, 0) ? 1 : 0, BAD);
            dueThrow("takeBack(0, " + term + ", 0)", () -> x.takeBack(0, term, 0) ? 1 : 0, BAD);
            dueThrow("takeBack(0, 0, " + term + ")", () -> x.takeBack(0, 0, term) ? 1 : 0, BAD);
        }
        due("triples()", x.triples(), 3);
    }

    private static void triples(TripleJoins x) {
        for (int k = 0; k < 20; k++) {
            due("triples()", x.triples(), k);
            x.state(k, 0, k);
            x.state(k, 0, k);
        }
        for (int k = 20; k > 0; k--) {
            due("triples()", x.triples(), k);
            x.takeBack(k - 1, 0, k - 1);
            x.takeBack(k - 1, 0, k - 1);
        }
        due("triples()", x.triples(), 0);
    }

    /** Numbers: 50 is 0, 40 is 1, 30 is 2, so that the order by number is the order by term turned round. */
    private static void termAt(TripleJoins x) {
        x.state(50, 40, 30);
        x.state(30, 40, 50);
        x.state(40, 50, 50);
        x.state(50, 30, 50);
        int[][][] want = {
            {{50, 40, 30}, {50, 30, 50}, {40, 50, 50}, {30, 40, 50}},
            {{40, 50, 50}, {30, 40, 50}, {50, 40, 30}, {50, 30, 50}},
            {{50, 30, 50}, {40, 50, 50}, {30, 40, 50}, {50, 40, 30}}};
        for (int order = 0; order < 3; order++) {
            for (int place = 0; place < 4; place++) {
                for (int part = 0; part < 3; part++) {
                    due("termAt(" + order + ", " + place + ", " + part + ")", x.termAt(order, place, part),
                            want[order][place][part]);
                }
            }
        }
        x.takeBack(30, 40, 50);
        due("termAt(1, 1, 0) after takeBack", x.termAt(1, 1, 0), 50);
        due("termAt(2, 2, 2) after takeBack", x.termAt(2, 2, 2), 30);
        due("termAt(0, 2, 1) after takeBack", x.termAt(0, 2, 1), 50);
        dueThrow("termAt(0, 3, 0) after takeBack", () -> x.termAt(0, 3, 0), OUT);
    }

    private static void termAtWrong(TripleJoins x) {
        x.state(1, 2, 3);
        for (int k : new int[] {-1, 3, MIN, MAX}) {
            dueThrow("termAt(" + k + ", 0, 0)", () -> x.termAt(k, 0, 0), BAD);
            dueThrow("termAt(0, 0, " + k + ")", () -> x.termAt(0, 0, k), BAD);
            dueThrow("termAt(" + k + ", 1, 0)", () -> x.termAt(k, 1, 0), BAD);
            dueThrow("termAt(0, -1, " + k + ")", () -> x.termAt(0, -1, k), BAD);
        }
        for (int place : new int[] {-1, 1, 60, MIN, MAX}) {
            dueThrow("termAt(0, " + place + ", 0)", () -> x.termAt(0, place, 0), OUT);
            dueThrow("termAt(2, " + place + ", 2)", () -> x.termAt(2, place, 2), OUT);
        }
    }

    private static void terms(TripleJoins x) {
        x.state(5, 5, 5);
        due("terms()", x.terms(), 1);
        x.state(5, 6, 5);
        due("terms()", x.terms(), 2);
        x.state(8, 6, 7);
        due("terms()", x.terms(), 4);
        x.takeBack(8, 6, 7);
        due("terms() after takeBack", x.terms(), 4);
        x.addPattern(70, 71, 72);
        x.matches(0);
        x.answerByLoops();
        due("terms() after addPattern", x.terms(), 4);
    }

    private static void numberOf(TripleJoins x) {
        x.state(99, 0, 42);
        x.state(0, 42, 41);
        due("numberOf(99)", x.numberOf(99), 0);
        due("numberOf(0)", x.numberOf(0), 1);
        due("numberOf(42)", x.numberOf(42), 2);
        due("numberOf(41)", x.numberOf(41), 3);
        due("numberOf(1)", x.numberOf(1), -1);
        for (int term : new int[] {-1, 100, MIN, MAX}) {
            dueThrow("numberOf(" + term + ")", () -> x.numberOf(term), BAD);
        }
    }

    private static void termOf(TripleJoins x) {
        x.state(99, 0, 42);
        due("termOf(0)", x.termOf(0), 99);
        due("termOf(1)", x.termOf(1), 0);
        due("termOf(2)", x.termOf(2), 42);
        for (int number : new int[] {-1, 3, 39, 40, 63, MIN, MAX}) {
            dueThrow("termOf(" + number + ")", () -> x.termOf(number), OUT);
        }
        x.takeBack(99, 0, 42);
        due("termOf(0) after takeBack", x.termOf(0), 99);
    }

    // ---- looking up

    private static void count(TripleJoins x) {
        x.state(1, 2, 3);
        x.state(1, 2, 4);
        x.state(1, 3, 4);
        x.state(4, 2, 3);
        x.state(4, 4, 4);
        due("count(-1, -1, -1)", x.count(-1, -1, -1), 5);
        due("count(1, -1, -1)", x.count(1, -1, -1), 3);
        due("count(-1, 2, -1)", x.count(-1, 2, -1), 3);
        due("count(-1, -1, 4)", x.count(-1, -1, 4), 3);
        due("count(1, 2, -1)", x.count(1, 2, -1), 2);
        due("count(-1, 2, 3)", x.count(-1, 2, 3), 2);
        due("count(1, -1, 4)", x.count(1, -1, 4), 2);
        due("count(4, 4, 4)", x.count(4, 4, 4), 1);
        due("count(4, 4, 3)", x.count(4, 4, 3), 0);
        due("count(99, -1, -1)", x.count(99, -1, -1), 0);
        due("count(-1, 99, -1)", x.count(-1, 99, -1), 0);
        due("count(1, 2, 99)", x.count(1, 2, 99), 0);
        for (int term : new int[] {-2, 100, MIN, MAX}) {
            dueThrow("count(" + term + ", 0, 0)", () -> x.count(term, 0, 0), BAD);
            dueThrow("count(-1, " + term + ", 0)", () -> x.count(-1, term, 0), BAD);
            dueThrow("count(-1, -1, " + term + ")", () -> x.count(-1, -1, term), BAD);
        }
        due("terms()", x.terms(), 4);
        x.state(0, 2, 0);
        due("count(0, -1, -1)", x.count(0, -1, -1), 1);
        due("count(-1, 0, -1)", x.count(-1, 0, -1), 0);
        due("count(-1, 2, 0)", x.count(-1, 2, 0), 1);
        due("count(-1, -1, -1)", x.count(-1, -1, -1), 6);
    }

    private static void orderFor(TripleJoins x) {
        due("orderFor(false, false, false)", x.orderFor(false, false, false), 0);
        due("orderFor(true, false, false)", x.orderFor(true, false, false), 0);
        due("orderFor(false, true, false)", x.orderFor(false, true, false), 1);
        due("orderFor(false, false, true)", x.orderFor(false, false, true), 2);
        due("orderFor(true, true, false)", x.orderFor(true, true, false), 0);
        due("orderFor(false, true, true)", x.orderFor(false, true, true), 1);
        due("orderFor(true, false, true)", x.orderFor(true, false, true), 2);
        due("orderFor(true, true, true)", x.orderFor(true, true, true), 0);
    }

    private static void seek(TripleJoins x) {
        x.state(90, 80, 70);
        x.state(80, 80, 90);
        x.state(80, 90, 70);
        x.state(60, 90, 90);
        due("seek(0, 90)", x.seek(0, 90), 0);
        due("seek(0, 80)", x.seek(0, 80), 1);
        due("seek(0, 70), which is no subject", x.seek(0, 70), 3);
        due("seek(0, 60)", x.seek(0, 60), 3);
        due("seek(1, 90)", x.seek(1, 90), 0);
        due("seek(1, 80)", x.seek(1, 80), 2);
        due("seek(1, 70)", x.seek(1, 70), 4);
        due("seek(1, 60)", x.seek(1, 60), 4);
        due("seek(2, 90)", x.seek(2, 90), 0);
        due("seek(2, 80), which is no object", x.seek(2, 80), 2);
        due("seek(2, 70)", x.seek(2, 70), 2);
        due("seek(2, 60)", x.seek(2, 60), 4);
        dueThrow("seek(0, 1)", () -> x.seek(0, 1), NOT_NOW);
        for (int k : new int[] {-1, 3, MIN, MAX}) {
            dueThrow("seek(" + k + ", 90)", () -> x.seek(k, 90), BAD);
            dueThrow("seek(" + k + ", 1)", () -> x.seek(k, 1), BAD);
        }
        for (int k : new int[] {-1, 100, MIN, MAX}) {
            dueThrow("seek(0, " + k + ")", () -> x.seek(0, k), BAD);
        }
        x.takeBack(90, 80, 70);
        x.takeBack(80, 80, 90);
        x.takeBack(80, 90, 70);
        x.takeBack(60, 90, 90);
        due("seek(0, 90) in an empty store", x.seek(0, 90), 0);
    }

    // ---- the query

    private static void forget(TripleJoins x) {
        x.state(1, 2, 3);
        x.addPattern(-1, -2, -3);
        x.addPattern(-1, -2, -4);
        x.answerByLoops();
        due("forget()", x.forget(), 2);
        due("forget() again", x.forget(), 0);
        due("patterns()", x.patterns(), 0);
        due("variables()", x.variables(), 0);
        due("shape()", x.shape(), 0);
        due("answers()", x.answers(), 1);
        due("triples()", x.triples(), 1);
        dueThrow("matches(0)", () -> x.matches(0), OUT);
        dueThrow("joined(0)", () -> x.joined(0), OUT);
        dueThrow("answerByLoops()", x::answerByLoops, NOT_NOW);
        due("addPattern(5, 5, 5)", x.addPattern(5, 5, 5), 0);
        due("forget()", x.forget(), 1);
    }

    private static void addPattern(TripleJoins x) {
        for (int part : new int[] {-5, -6, 100, MIN, MAX}) {
            dueThrow("addPattern(" + part + ", 0, 0)", () -> x.addPattern(part, 0, 0), BAD);
            dueThrow("addPattern(0, " + part + ", 0)", () -> x.addPattern(0, part, 0), BAD);
            dueThrow("addPattern(0, 0, " + part + ")", () -> x.addPattern(0, 0, part), BAD);
        }
        due("patterns()", x.patterns(), 0);
        due("addPattern(0, -4, 99)", x.addPattern(0, -4, 99), 0);
        due("addPattern(99, 0, -1)", x.addPattern(99, 0, -1), 1);
        due("addPattern(-4, 99, 0)", x.addPattern(-4, 99, 0), 2);
        dueThrow("the fourth pattern", () -> x.addPattern(1, 1, 1), NOT_NOW);
        dueThrow("a wrong fourth pattern", () -> x.addPattern(1, 1, 100), BAD);
        due("patterns()", x.patterns(), 3);
        due("variables()", x.variables(), 9);
        due("terms()", x.terms(), 0);
    }

    private static void addPatternNewTerm(TripleJoins x) {
        x.addPattern(-1, 7, 8);
        due("matches(0)", x.matches(0), 0);
        due("terms()", x.terms(), 0);
        due("answerByMerging()", x.answerByMerging(), 0);
        x.state(6, 8, 7);
        due("matches(0)", x.matches(0), 0);
        x.state(6, 7, 8);
        due("matches(0)", x.matches(0), 1);
        due("answerByMerging()", x.answerByMerging(), 1);
        due("answer(0, 0)", x.answer(0, 0), 6);
    }

    private static void patterns(TripleJoins x) {
        for (int k = 0; k < 3; k++) {
            due("patterns()", x.patterns(), k);
            x.addPattern(1, 2, 3);
        }
        due("patterns()", x.patterns(), 3);
        x.forget();
        due("patterns()", x.patterns(), 0);
    }

    private static void matches(TripleJoins x) {
        x.state(1, 1, 1);
        x.state(1, 1, 2);
        x.state(1, 2, 1);
        x.state(2, 1, 1);
        x.state(1, 2, 3);
        dueMatches(x, -1, -2, -3, 5);
        dueMatches(x, -1, -1, -1, 1);
        dueMatches(x, -1, -1, -2, 2);
        dueMatches(x, -1, -2, -1, 2);
        dueMatches(x, -2, -1, -1, 2);
        dueMatches(x, 1, -1, -1, 1);
        dueMatches(x, -4, 2, -4, 1);
        dueMatches(x, -3, -3, 2, 1);
        dueMatches(x, 1, 2, -1, 2);
        dueMatches(x, 1, 2, 3, 1);
        dueMatches(x, 3, 2, 1, 0);
        dueMatches(x, 9, -1, -1, 0);
        dueMatches(x, 9, 9, 9, 0);
        dueMatches(x, 0, -1, -1, 0);
        dueMatches(x, 1, 0, -1, 0);
        x.state(0, 1, 0);
        dueMatches(x, 0, -1, -2, 1);
        dueMatches(x, -1, 1, 0, 1);
        dueMatches(x, -1, 0, -2, 0);
        x.takeBack(0, 1, 0);
        x.addPattern(-1, -2, -3);
        x.addPattern(-1, 2, -3);
        x.takeBack(1, 2, 3);
        due("matches(0)", x.matches(0), 4);
        due("matches(1)", x.matches(1), 1);
        for (int pattern : new int[] {-1, 2, 3, MIN, MAX}) {
            dueThrow("matches(" + pattern + ")", () -> x.matches(pattern), OUT);
        }
    }

    private static void dueMatches(TripleJoins x, int subject, int predicate, int object, int want) {
        int pattern = x.addPattern(subject, predicate, object);
        due("matches of " + subject + " " + predicate + " " + object, x.matches(pattern), want);
        x.forget();
    }

    private static void variables(TripleJoins x) {
        x.addPattern(1, 2, 3);
        due("variables()", x.variables(), 0);
        x.addPattern(-4, 2, -4);
        due("variables()", x.variables(), 8);
        x.addPattern(-3, -1, 7);
        due("variables()", x.variables(), 13);
        x.forget();
        due("variables()", x.variables(), 0);
        x.addPattern(0, -2, 0);
        due("variables()", x.variables(), 2);
    }

    private static void shape(TripleJoins x) {
        dueShape(x, 0, -1, -2, -1);
        dueShape(x, 1, -1, 5, -2, -1, 5, -3);
        dueShape(x, 0, 1, 5, -2, 1, 5, -3);
        dueShape(x, 0, -1, 5, -2, -3, 5, -2);
        dueShape(x, 2, 7, 5, -2, -2, 5, 8);
        dueShape(x, 0, -1, 5, 7, 7, 5, -2);
        dueShape(x, 3, -1, 5, -1, -1, 5, 9);
        dueShape(x, 0, -1, 5, -2, -3, 5, -1);
        dueShape(x, 1, -1, 5, -2, -1, 5, -1, -1, 6, 6);
        dueShape(x, 0, -1, 5, -2, -1, 5, -1, -2, 6, 6);
        dueShape(x, 2, -1, 5, -2, -2, 5, -3, -3, 6, -4);
        dueShape(x, 2, -1, 5, -2, -2, 5, -1, -1, 6, -2);
        dueShape(x, 0, -1, 5, -2, -2, 5, -3, -4, 6, -4);
        dueShape(x, 0, -1, 5, -2, -3, 5, -4, -4, 6, -4);
        dueShape(x, 3, -1, 5, -1, -1, 5, -1, -1, 6, -2);
        dueShape(x, 1, -1, 5, -1, -1, 5, -2, -1, 6, -2);
        dueShape(x, 0, 0, 5, -2, 0, 5, -3);
        dueShape(x, 0, -1, 5, 0, 0, 5, -2);
    }

    private static void dueShape(TripleJoins x, int want, int... parts) {
        x.forget();
        for (int k = 0; k + 2 < parts.length; k += 3) {
            x.addPattern(parts[k], parts[k + 1], parts[k + 2]);
        }
        due("shape() of " + java.util.Arrays.toString(parts), x.shape(), want);
    }

    private static void dueJoined(TripleJoins x, int... want) {
        for (int place = 0; place < want.length; place++) {
            due("joined(" + place + ")", x.joined(place), want[place]);
        }
        for (int place : new int[] {-1, want.length, MIN, MAX}) {
            dueThrow("joined(" + place + ")", () -> x.joined(place), OUT);
        }
    }

    private static void joined(TripleJoins x) {
        x.state(1, 50, 2);
        x.state(2, 50, 3);
        x.state(3, 50, 4);
        x.state(1, 60, 2);
        x.state(1, 60, 3);
        x.state(1, 70, 2);
        dueJoined(x);
        x.addPattern(-1, 50, -2);
        dueJoined(x, 0);
        x.addPattern(-1, 60, -3);
        dueJoined(x, 1, 0);
        x.addPattern(-1, 70, -4);
        dueJoined(x, 2, 1, 0);
        x.takeBack(2, 50, 3);
        x.takeBack(3, 50, 4);
        dueJoined(x, 0, 2, 1);
        x.forget();
        x.addPattern(-1, 50, -2);
        x.addPattern(-1, 70, -2);
        x.addPattern(-2, 70, -1);
        dueJoined(x, 0, 1, 2);
        x.state(2, 50, 3);
        dueJoined(x, 1, 2, 0);
    }

    private static void joinedSharing(TripleJoins x) {
        x.state(1, 50, 2);
        x.state(2, 60, 3);
        x.state(3, 60, 4);
        x.state(1, 70, 2);
        x.state(1, 70, 3);
        x.state(1, 70, 4);
        x.addPattern(-3, 60, -4);
        x.addPattern(-2, 70, -1);
        x.addPattern(1, 50, -1);
        dueJoined(x, 2, 1, 0);
        x.forget();
        x.addPattern(-3, 60, -4);
        x.addPattern(-2, 70, -1);
        x.addPattern(1, 50, 2);
        dueJoined(x, 2, 0, 1);
        x.forget();
        x.addPattern(-3, 70, -4);
        x.addPattern(-1, 70, -2);
        x.addPattern(-4, 60, -2);
        dueJoined(x, 2, 0, 1);
        x.forget();
        x.addPattern(1, 50, -1);
        x.addPattern(-2, 60, -3);
        x.addPattern(-3, 70, -2);
        dueJoined(x, 0, 1, 2);
        x.forget();
        x.addPattern(9, 9, -1);
        x.addPattern(-2, 60, -3);
        x.addPattern(-3, 70, -1);
        dueJoined(x, 0, 2, 1);
    }

    // ---- answers

    private static void answering(TripleJoins x, int way) {
        dueThrow("no patterns", () -> answerBy(x, way), NOT_NOW);
        x.state(1, 50, 2);
        x.state(2, 50, 3);
        x.state(2, 50, 4);
        x.state(3, 60, 1);
        x.state(4, 60, 5);
        dueThrow("no patterns", () -> answerBy(x, way), NOT_NOW);
        x.addPattern(-1, 50, -2);
        due("one pattern", answerBy(x, way), 3);
        dueAnswer(x, 0, 3, 1, 2, -1, -1);
        dueAnswer(x, 2, 3, 2, 4, -1, -1);
        x.addPattern(-2, 50, -3);
        due("a chain", answerBy(x, way), 2);
        dueAnswer(x, 0, 7, 1, 2, 3, -1);
        dueAnswer(x, 1, 7, 1, 2, 4, -1);
        x.addPattern(-3, 60, -1);
        due("a ring", answerBy(x, way), 1);
        dueAnswer(x, 0, 7, 1, 2, 3, -1);
        x.forget();
        x.addPattern(-1, 50, -2);
        x.addPattern(-3, 60, -4);
        due("two that share nothing", answerBy(x, way), 6);
        dueAnswer(x, 0, 15, 1, 2, 3, 1);
        dueAnswer(x, 1, 15, 1, 2, 4, 5);
        dueAnswer(x, 5, 15, 2, 4, 4, 5);
        x.addPattern(99, 50, 2);
        due("a triple that is not there", answerBy(x, way), 0);
        due("answers()", x.answers(), 0);
        dueThrow("answer(0, 0)", () -> x.answer(0, 0), OUT);
    }

    private static void answeringWithoutVariables(TripleJoins x, int way) {
        x.state(1, 50, 2);
        x.state(2, 50, 3);
        x.addPattern(1, 50, 2);
        due("one that is there", answerBy(x, way), 1);
        dueAnswer(x, 0, 0, -1, -1, -1, -1);
        x.addPattern(2, 50, 3);
        x.addPattern(1, 50, 2);
        due("all that are there", answerBy(x, way), 1);
        x.takeBack(2, 50, 3);
        due("one that is not there", answerBy(x, way), 0);
        due("answers()", x.answers(), 0);
        x.forget();
        x.addPattern(1, 50, 99);
        due("one with a term without number", answerBy(x, way), 0);
        x.forget();
        x.addPattern(2, 50, 3);
        x.addPattern(-1, -2, -3);
        due("one not there beside one with variables", answerBy(x, way), 0);
    }

    private static void answersSorted(TripleJoins x, int way) {
        x.state(90, 80, 70);
        x.state(70, 80, 90);
        x.state(90, 80, 80);
        x.state(10, 80, 70);
        x.state(10, 80, 5);
        x.addPattern(-4, 80, -2);
        due("answers", answerBy(x, way), 5);
        int[][] want = {{90, 70}, {80, 90}, {70, 90}, {70, 10}, {5, 10}};
        for (int place = 0; place < want.length; place++) {
            dueAnswer(x, place, 10, -1, want[place][0], -1, want[place][1]);
        }
        x.addPattern(-3, 80, 70);
        due("answers", answerBy(x, way), 10);
        dueAnswer(x, 0, 14, -1, 90, 90, 70);
        dueAnswer(x, 1, 14, -1, 90, 10, 70);
        dueAnswer(x, 2, 14, -1, 80, 90, 90);
        dueAnswer(x, 4, 14, -1, 70, 90, 90);
        dueAnswer(x, 5, 14, -1, 70, 90, 10);
        dueAnswer(x, 6, 14, -1, 70, 10, 90);
        dueAnswer(x, 9, 14, -1, 5, 10, 10);
    }

    private static void answeringRepeated(TripleJoins x, int way) {
        x.state(1, 1, 1);
        x.state(1, 2, 2);
        x.state(2, 2, 1);
        x.state(2, 1, 2);
        x.addPattern(-3, -3, -3);
        due("all alike", answerBy(x, way), 1);
        dueAnswer(x, 0, 4, -1, -1, 1, -1);
        x.forget();
        x.addPattern(-1, -2, -1);
        due("subject and object alike", answerBy(x, way), 2);
        dueAnswer(x, 0, 3, 1, 1, -1, -1);
        dueAnswer(x, 1, 3, 2, 1, -1, -1);
        x.addPattern(-2, -1, -1);
        due("and the predicate twice", answerBy(x, way), 2);
        dueAnswer(x, 1, 3, 2, 1, -1, -1);
        x.addPattern(-1, -1, -1);
        due("and all alike", answerBy(x, way), 1);
        x.forget();
        x.addPattern(-1, -2, -3);
        x.addPattern(-1, -2, -3);
        due("the same pattern twice", answerBy(x, way), 4);
        x.addPattern(-3, -2, -1);
        due("and turned round", answerBy(x, way), 4);
        x.state(2, 1, 1);
        due("and turned round, with one that is not", answerBy(x, way), 4);
    }

    private static void answeringLimit(TripleJoins x, int way) {
        for (int k = 0; k < 20; k++) {
            x.state(k, 30, 31);
        }
        for (int k = 0; k < 10; k++) {
            x.state(k, 32, 31);
            x.state(k, 33, 31);
        }
        x.addPattern(-1, 30, -4);
        x.addPattern(-2, 32, -4);
        x.addPattern(-3, 33, -4);
        due("2000 answers", answerBy(x, way), 2000);
        due("answers()", x.answers(), 2000);
        dueAnswer(x, 0, 15, 0, 0, 0, 31);
        dueAnswer(x, 1234, 15, 12, 3, 4, 31);
        dueAnswer(x, 1999, 15, 19, 9, 9, 31);
        dueThrow("answer(2000, 0)", () -> x.answer(2000, 0), OUT);
        x.state(0, 30, 34);
        x.state(0, 32, 34);
        x.state(0, 33, 34);
        dueThrow("2001 answers", () -> answerBy(x, way), NOT_NOW);
        due("answers()", x.answers(), 2000);
        dueAnswer(x, 0, 15, 0, 0, 0, 31);
        dueAnswer(x, 1, 15, 0, 0, 1, 31);
        x.takeBack(0, 33, 34);
        due("2000 answers again", answerBy(x, way), 2000);
        x.forget();
        x.addPattern(-1, 30, 31);
        x.addPattern(-2, 30, 31);
        x.addPattern(-3, 30, 31);
        dueThrow("8000 answers", () -> answerBy(x, way), NOT_NOW);
        due("answers()", x.answers(), 2000);
        dueAnswer(x, 1999, 15, 19, 9, 9, 31);
    }

    /** The first two patterns have 3600 pairs of triples, of which the third leaves few. */
    private static void answeringWide(TripleJoins x, int way) {
        for (int k = 0; k < 60; k++) {
            x.state(k % 39, 39, k / 39 * 20 + k % 20);
        }
        due("triples()", x.triples(), 60);
        x.addPattern(-1, -2, -3);
        x.addPattern(-4, 39, -2);
        x.addPattern(-1, 39, -4);
        int by = answerBy(x, way);
        due("as by loops", by, x.answerByLoops());
        x.forget();
        x.addPattern(-1, 39, -2);
        x.addPattern(-3, 39, -4);
        dueThrow("3600 answers", () -> answerBy(x, way), NOT_NOW);
        x.addPattern(-2, 39, -3);
        due("few of many", answerBy(x, way), fewOfMany());
        x.forget();
        x.addPattern(-1, 39, -2);
        x.addPattern(-3, 39, -4);
        x.addPattern(39, -2, -2);
        due("none of many", answerBy(x, way), 0);
        x.forget();
        x.addPattern(-1, -2, -3);
        x.addPattern(-1, -2, -3);
        x.addPattern(-1, -2, -3);
        due("each triple once", answerBy(x, way), 60);
        x.forget();
        x.addPattern(-1, 39, -4);
        x.addPattern(-2, 39, -4);
        x.addPattern(-3, 39, 5);
        due("200 answers", answerBy(x, way), 200);
    }

    /** How many pairs of answeringWide's triples have a third from the object of the one to the other's subject. */
    private static int fewOfMany() {
        int few = 0;
        for (int a = 0; a < 60; a++) {
            for (int b = 0; b < 60; b++) {
                for (int c = 0; c < 60; c++) {
                    few += c % 39 == a / 39 * 20 + a % 20 && c / 39 * 20 + c % 20 == b % 39 ? 1 : 0;
                }
            }
        }
        return few;
    }

    private static void answeringThrows(TripleJoins x, int way) {
        for (int k = 0; k < 13; k++) {
            x.state(k, 20, k);
        }
        x.addPattern(-2, 20, 12);
        due("one answer", answerBy(x, way), 1);
        x.forget();
        dueThrow("no patterns", () -> answerBy(x, way), NOT_NOW);
        dueAnswer(x, 0, 2, -1, 12, -1, -1);
        x.addPattern(-1, 20, -1);
        x.addPattern(-3, 20, -3);
        x.addPattern(-4, 20, -4);
        dueThrow("2197 answers", () -> answerBy(x, way), NOT_NOW);
        due("answers()", x.answers(), 1);
        dueAnswer(x, 0, 2, -1, 12, -1, -1);
        due("termsFor(0)", x.termsFor(0), 0);
        due("termsFor(1)", x.termsFor(1), 1);
        due("patterns()", x.patterns(), 3);
        due("variables()", x.variables(), 13);
        x.takeBack(0, 20, 0);
        due("1728 answers", answerBy(x, way), 1728);
        due("termsFor(1)", x.termsFor(1), 0);
        due("termsFor(2)", x.termsFor(2), 12);
    }

    private static void answers(TripleJoins x) {
        x.state(1, 2, 3);
        x.state(1, 2, 4);
        due("answers()", x.answers(), 0);
        x.addPattern(1, 2, -1);
        due("answers()", x.answers(), 0);
        x.answerByVariables();
        due("answers()", x.answers(), 2);
        x.takeBack(1, 2, 3);
        x.forget();
        x.addPattern(4, -1, -1);
        due("answers()", x.answers(), 2);
        x.answerByMerging();
        due("answers()", x.answers(), 0);
    }

    private static void answer(TripleJoins x) {
        x.state(1, 2, 3);
        x.state(1, 2, 4);
        x.addPattern(1, 2, -2);
        x.answerByLoops();
        due("answer(0, 1)", x.answer(0, 1), 3);
        due("answer(1, 1)", x.answer(1, 1), 4);
        for (int place : new int[] {-1, 2, 1999, 2000, MIN, MAX}) {
            dueThrow("answer(" + place + ", 1)", () -> x.answer(place, 1), OUT);
            dueThrow("answer(" + place + ", 0)", () -> x.answer(place, 0), OUT);
            dueThrow("answer(" + place + ", 4)", () -> x.answer(place, 4), OUT);
        }
        for (int variable : new int[] {-1, 0, 2, 3, 4, MIN, MAX}) {
            dueThrow("answer(0, " + variable + ")", () -> x.answer(0, variable), BAD);
        }
        x.forget();
        x.addPattern(-1, -1, -1);
        x.takeBack(1, 2, 3);
        due("answer(0, 1) of the query before", x.answer(0, 1), 3);
        dueThrow("answer(0, 0) of the query to come", () -> x.answer(0, 0), BAD);
    }

    private static void termsFor(TripleJoins x) {
        x.state(1, 50, 2);
        x.state(1, 50, 3);
        x.state(2, 50, 3);
        x.state(2, 60, 3);
        x.addPattern(-1, -2, -4);
        due("termsFor(0) before", x.termsFor(0), 0);
        x.answerByMerging();
        due("termsFor(0)", x.termsFor(0), 2);
        due("termsFor(1)", x.termsFor(1), 2);
        due("termsFor(2)", x.termsFor(2), 0);
        due("termsFor(3)", x.termsFor(3), 2);
        x.state(3, 50, 4);
        due("termsFor(0) of the kept", x.termsFor(0), 2);
        x.answerByMerging();
        due("termsFor(0)", x.termsFor(0), 3);
        x.forget();
        due("termsFor(3) after forget", x.termsFor(3), 3);
        for (int variable : new int[] {-1, 4, MIN, MAX}) {
            dueThrow("termsFor(" + variable + ")", () -> x.termsFor(variable), BAD);
        }
        x.addPattern(1, 50, -3);
        x.addPattern(1, 50, 99);
        x.answerByLoops();
        due("termsFor(2) of no answers", x.termsFor(2), 0);
        termsForMany();
    }

    private static void termsForMany() {
        TripleJoins y = new TripleJoins();
        for (int k = 0; k < 40; k++) {
            y.state(k, k, (k + 1) % 40);
        }
        y.addPattern(-1, -1, -2);
        y.answerByVariables();
        due("termsFor(0) of 40 terms", y.termsFor(0), 40);
        due("termsFor(1) of 40 terms", y.termsFor(1), 40);
    }
}
