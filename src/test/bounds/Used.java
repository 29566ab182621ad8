/**
 * An object under test that counts its calls, since what it answers after 512 of them is free: no test may lean on it.
 * Every answer is a number (a boolean is 1 or 0), so that one kind of call fits all.
 */
final class Used {

    static final int CALLS = 512;

    private final TripleJoins object = new TripleJoins();
    private int calls = 0;

    private TripleJoins next() {
        if (calls == CALLS) {
            throw new AssertionError("the test calls an object more than " + CALLS + " times");
        }
        calls++;
        return object;
    }

    int left() {
        return CALLS - calls;
    }

    int state(int subject, int predicate, int object) {
        return next().state(subject, predicate, object) ? 1 : 0;
    }

    int takeBack(int subject, int predicate, int object) {
        return next().takeBack(subject, predicate, object) ? 1 : 0;
    }

    int triples() {
        return next().triples();
    }

    int termAt(int order, int place, int part) {
        return next().termAt(order, place, part);
    }

    int terms() {
        return next().terms();
    }

    int numberOf(int term) {
        return next().numberOf(term);
    }

    int termOf(int number) {
        return next().termOf(number);
    }

    int count(int subject, int predicate, int object) {
        return next().count(subject, predicate, object);
    }

    int orderFor(boolean subject, boolean predicate, boolean object) {
        return next().orderFor(subject, predicate, object);
    }

    int seek(int order, int term) {
        return next().seek(order, term);
    }

    int forget() {
        return next().forget();
    }

    int addPattern(int subject, int predicate, int object) {
        return next().addPattern(subject, predicate, object);
    }

    /** Two calls. */
    void beginQuery(int subject, int predicate, int object) {
        forget();
        addPattern(subject, predicate, object);
    }

    int patterns() {
        return next().patterns();
    }

    int matches(int pattern) {
        return next().matches(pattern);
    }

    int variables() {
        return next().variables();
    }

    int shape() {
        return next().shape();
    }

    int joined(int place) {
        return next().joined(place);
    }

    int answerByMerging() {
        return next().answerByMerging();
    }

    int answerByVariables() {
        return next().answerByVariables();
    }

    int answerByLoops() {
        return next().answerByLoops();
    }

    /** The ways are 0: by merging, 1: by variables, 2: by loops. */
    int answerBy(int way) {
        return way == 0 ? answerByMerging() : way == 1 ? answerByVariables() : answerByLoops();
    }

    int answers() {
        return next().answers();
    }

    int answer(int place, int variable) {
        return next().answer(place, variable);
    }

    int termsFor(int variable) {
        return next().termsFor(variable);
    }
}
