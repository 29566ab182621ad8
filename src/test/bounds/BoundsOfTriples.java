/** The promises 1 to 8: the triples and the dictionary. */
final class BoundsOfTriples {

    private final Bounds b;

    private BoundsOfTriples(Bounds b) {
        this.b = b;
    }

    static void addTo(Bounds b) {
        BoundsOfTriples part = new BoundsOfTriples(b);
        b.section("Promise 1: A new object");
        part.newObject();
        b.section("Promise 2: state");
        part.stateParts();
        part.stateReturns();
        part.stateOutOfRange();
        part.stateTooMuch();
        b.section("Promise 3: takeBack");
        part.takeBackParts();
        part.takeBackReturns();
        part.takeBackOutOfRange();
        b.section("Promise 4: triples");
        part.triples();
        b.section("Promise 5: termAt");
        part.termAtParts();
        part.termAtReturns();
        part.termAtThrows();
        b.section("Promise 6: terms");
        part.terms();
        b.section("Promise 7: numberOf");
        part.numberOf();
        b.section("Promise 8: termOf");
        part.termOf();
    }

    private void newObject() {
        b.sentence("Begins without triples, with an empty dictionary, and a query without patterns");
        b.allows("triples()", 0, Used::triples, World.EMPTY);
        b.allows("count(-1, -1, -1)", 0, x -> x.count(-1, -1, -1), World.EMPTY);
        b.allows("takeBack(0, 0, 0)", 0, x -> x.takeBack(0, 0, 0), World.EMPTY);
        b.allows("terms()", 0, Used::terms, World.EMPTY);
        b.test("numberOf has no number for any term", x -> {
            for (int term = 0; term < 100; term++) {
                b.due("numberOf(" + term + ")", x.numberOf(term), -1);
            }
        });
        b.allows("patterns()", 0, Used::patterns, World.EMPTY);
        b.allows("variables()", 0, Used::variables, World.EMPTY);
        b.allows("shape()", 0, Used::shape, World.EMPTY);
        b.allows("forget()", 0, Used::forget, World.EMPTY);
        b.allows("answers()", 0, Used::answers, World.EMPTY);
        b.allows("termsFor(0)", 0, x -> x.termsFor(0), World.EMPTY);
        b.allows("termsFor(3)", 0, x -> x.termsFor(3), World.EMPTY);
        b.refuses("termAt(0, 0, 0)", Bounds.OUT, x -> x.termAt(0, 0, 0), World.EMPTY);
        b.refuses("termOf(0)", Bounds.OUT, x -> x.termOf(0), World.EMPTY);
        b.refuses("seek(0, 0)", Bounds.NOT_NOW, x -> x.seek(0, 0), World.EMPTY);
        b.refuses("matches(0)", Bounds.OUT, x -> x.matches(0), World.EMPTY);
        b.refuses("joined(0)", Bounds.OUT, x -> x.joined(0), World.EMPTY);
        b.refuses("answerByMerging()", Bounds.NOT_NOW, Used::answerByMerging, World.EMPTY);
        b.refuses("answerByVariables()", Bounds.NOT_NOW, Used::answerByVariables, World.EMPTY);
        b.refuses("answerByLoops()", Bounds.NOT_NOW, Used::answerByLoops, World.EMPTY);
        b.refuses("answer(0, 0)", Bounds.OUT, x -> x.answer(0, 0), World.EMPTY);
        b.test("a second object has nothing of a first one", x -> {
            World.FULL.make();
            b.due("triples()", x.triples(), 0);
            b.due("terms()", x.terms(), 0);
            b.due("patterns()", x.patterns(), 0);
            b.due("answers()", x.answers(), 0);
        });
    }

    private void stateParts() {
        b.sentence("subject: 0 to 99");
        b.allows("state(0, 5, 5)", 1, x -> x.state(0, 5, 5), World.EMPTY, World.SOME);
        b.allows("state(99, 5, 5)", 1, x -> x.state(99, 5, 5), World.EMPTY, World.SOME);
        b.refusesBeyond(0, 99, "state(%d, 5, 5)", (x, term) -> x.state(term, 5, 5), Bounds.BAD, World.ALL);
        b.sentence("predicate: 0 to 99");
        b.allows("state(5, 0, 5)", 1, x -> x.state(5, 0, 5), World.EMPTY, World.SOME);
        b.allows("state(5, 99, 5)", 1, x -> x.state(5, 99, 5), World.EMPTY, World.SOME);
        b.refusesBeyond(0, 99, "state(5, %d, 5)", (x, term) -> x.state(5, term, 5), Bounds.BAD, World.ALL);
        b.sentence("object: 0 to 99");
        b.allows("state(5, 5, 0)", 1, x -> x.state(5, 5, 0), World.EMPTY, World.SOME);
        b.allows("state(5, 5, 99)", 1, x -> x.state(5, 5, 99), World.EMPTY, World.SOME);
        b.refusesBeyond(0, 99, "state(5, 5, %d)", (x, term) -> x.state(5, 5, term), Bounds.BAD, World.ALL);
        b.plain("States a triple");
    }

    private void stateReturns() {
        b.sentence("Returns whether it was not in the store");
        b.test("the first triple, and the same again", x -> {
            b.due("state(0, 0, 0)", x.state(0, 0, 0), 1);
            b.due("state(0, 0, 0)", x.state(0, 0, 0), 0);
            b.due("triples()", x.triples(), 1);
        });
        b.test("a triple that differs in one part", x -> {
            x.state(1, 2, 3);
            b.due("in the subject", x.state(2, 2, 3), 1);
            b.due("in the predicate", x.state(1, 3, 3), 1);
            b.due("in the object", x.state(1, 2, 1), 1);
            b.due("in none", x.state(1, 2, 3), 0);
        });
        b.test("a triple that was taken back", x -> {
            x.state(1, 2, 3);
            x.takeBack(1, 2, 3);
            b.due("state(1, 2, 3)", x.state(1, 2, 3), 1);
            b.due("state(1, 2, 3)", x.state(1, 2, 3), 0);
        });
        b.test("each of 60 triples is there", x -> {
            Used y = World.SIXTY.make();
            for (int k = 0; k < 60; k++) {
                b.due("state " + k, y.state(k / 4, k % 4, 99), 0);
            }
            b.due("triples()", y.triples(), 60);
        });
        b.test("each of 60 triples is new", x -> {
            for (int k = 0; k < 60; k++) {
                b.due("state " + k, x.state(k / 4, k % 4, 99), 1);
                b.due("triples()", x.triples(), k + 1);
            }
        });
    }

    private void stateOutOfRange() {
        b.sentence("Throws IllegalArgumentException if subject, predicate or object is out of range");
        b.refuses("state(-1, -1, 5)", Bounds.BAD, x -> x.state(-1, -1, 5), World.ALL);
        b.refuses("state(100, 5, 100)", Bounds.BAD, x -> x.state(100, 5, 100), World.ALL);
        b.refuses("state(5, -1, 100)", Bounds.BAD, x -> x.state(5, -1, 100), World.ALL);
        b.refuses("state(MAX, MIN, MAX)", Bounds.BAD, x -> x.state(Bounds.MAX, Bounds.MIN, Bounds.MAX), World.ALL);
        b.refuses("state(100, 0, 0) with 60 triples or 40 terms", Bounds.BAD, x -> x.state(100, 0, 0), World.SIXTY,
                World.FORTY);
    }

    private static World withTerms(int howMany) {
        return new World("an object with " + howMany + " terms", x -> World.buildTerms(x, howMany));
    }

    /** The dictionary has some terms, and the triple brings unlike new ones: more than 40 are too many. */
    private void stateNewTerms(int had, int brought, int subject, int predicate, int object) {
        String call = "state(" + subject + ", " + predicate + ", " + object + ") beside " + had + " terms";
        if (had + brought > 40) {
            b.refuses(call, Bounds.NOT_NOW, x -> x.state(subject, predicate, object), withTerms(had));
            return;
        }
        b.test(call + " is allowed", x -> {
            Used y = withTerms(had).make();
            b.due(call, y.state(subject, predicate, object), 1);
            b.due("terms()", y.terms(), had + brought);
            b.due("triples()", y.triples(), had + 1);
            b.due("count", y.count(subject, predicate, object), 1);
        });
    }

    private void stateTooMuch() {
        b.sentence("Throws IllegalStateException if it is not in the store, and there are 60 triples, or the dictionary"
                + " would have more than 40 terms");
        World almost = new World("an object with 59 triples", x -> {
            for (int k = 0; k < 59; k++) {
                x.state(k / 4, k % 4, 99);
            }
        });
        b.allows("state(99, 99, 98) beside 59 triples", 1, x -> x.state(99, 99, 98), almost);
        b.allows("state(14, 3, 99) beside 59 triples", 1, x -> x.state(14, 3, 99), almost);
        b.refuses("state(99, 99, 0), whose terms are there", Bounds.NOT_NOW, x -> x.state(99, 99, 0), World.SIXTY,
                World.FULL);
        b.refuses("state(77, 78, 79), whose terms are new", Bounds.NOT_NOW, x -> x.state(77, 78, 79), World.SIXTY,
                World.FULL);
        b.allows("state(0, 0, 99), which is there", 0, x -> x.state(0, 0, 99), World.SIXTY);
        b.allows("state(99, 99, 99), which is there", 0, x -> x.state(99, 99, 99), World.FULL);
        b.allows("state(39, 39, 39), which is there", 0, x -> x.state(39, 39, 39), World.FORTY);
        b.allows("state(39, 0, 38), whose terms are there", 1, x -> x.state(39, 0, 38), World.FORTY);
        for (int had = 36; had <= 40; had++) {
            stateNewTerms(had, 0, 1, 2, 3);
            stateNewTerms(had, 1, 99, 2, 3);
            stateNewTerms(had, 1, 1, 99, 3);
            stateNewTerms(had, 1, 1, 2, 99);
            stateNewTerms(had, 1, 99, 99, 3);
            stateNewTerms(had, 1, 99, 2, 99);
            stateNewTerms(had, 1, 1, 99, 99);
            stateNewTerms(had, 1, 99, 99, 99);
            stateNewTerms(had, 2, 99, 98, 3);
            stateNewTerms(had, 2, 99, 2, 98);
            stateNewTerms(had, 2, 1, 99, 98);
            stateNewTerms(had, 2, 99, 98, 99);
            stateNewTerms(had, 2, 99, 99, 98);
            stateNewTerms(had, 2, 99, 98, 98);
            stateNewTerms(had, 3, 99, 98, 97);
        }
        b.test("when one of 60 triples is taken back there is room", x -> {
            Used y = World.SIXTY.make();
            y.takeBack(3, 3, 99);
            b.due("state(77, 78, 79)", y.state(77, 78, 79), 1);
            b.dueThrow("state(3, 3, 99)", y, z -> z.state(3, 3, 99), Bounds.NOT_NOW);
        });
        World less = new World("an object with 40 terms, of which one is in no triple", x -> {
            World.buildTerms(x, 40);
            x.takeBack(39, 39, 39);
        });
        b.refuses("state(99, 0, 0), as no term is forgotten", Bounds.NOT_NOW, x -> x.state(99, 0, 0), less);
        b.allows("state(39, 39, 39), as no term is forgotten", 1, x -> x.state(39, 39, 39), less);
    }

    private void takeBackParts() {
        b.sentence("subject: 0 to 99");
        b.allows("takeBack(0, 5, 5)", 0, x -> x.takeBack(0, 5, 5), World.ALL);
        b.allows("takeBack(99, 5, 5)", 0, x -> x.takeBack(99, 5, 5), World.ALL);
        b.refusesBeyond(0, 99, "takeBack(%d, 5, 5)", (x, term) -> x.takeBack(term, 5, 5), Bounds.BAD, World.ALL);
        b.sentence("predicate: 0 to 99");
        b.allows("takeBack(5, 0, 5)", 0, x -> x.takeBack(5, 0, 5), World.ALL);
        b.allows("takeBack(5, 99, 5)", 0, x -> x.takeBack(5, 99, 5), World.ALL);
        b.refusesBeyond(0, 99, "takeBack(5, %d, 5)", (x, term) -> x.takeBack(5, term, 5), Bounds.BAD, World.ALL);
        b.sentence("object: 0 to 99");
        b.allows("takeBack(5, 5, 0)", 0, x -> x.takeBack(5, 5, 0), World.ALL);
        b.allows("takeBack(5, 5, 99)", 0, x -> x.takeBack(5, 5, 99), World.ALL);
        b.refusesBeyond(0, 99, "takeBack(5, 5, %d)", (x, term) -> x.takeBack(5, 5, term), Bounds.BAD, World.ALL);
        b.plain("Takes a triple back");
    }

    private void takeBackReturns() {
        b.sentence("Returns whether it was in the store");
        b.test("the empty store has none", x -> {
            b.due("takeBack(0, 0, 0)", x.takeBack(0, 0, 0), 0);
            b.due("triples()", x.triples(), 0);
            b.due("terms()", x.terms(), 0);
        });
        b.test("the only triple, and the same again", x -> {
            x.state(0, 99, 0);
            b.due("takeBack(0, 99, 0)", x.takeBack(0, 99, 0), 1);
            b.due("triples()", x.triples(), 0);
            b.due("takeBack(0, 99, 0)", x.takeBack(0, 99, 0), 0);
            b.due("triples()", x.triples(), 0);
        });
        b.test("a triple that differs in one part", x -> {
            x.state(1, 2, 3);
            x.state(3, 1, 2);
            b.due("in the subject", x.takeBack(2, 2, 3), 0);
            b.due("in the predicate", x.takeBack(1, 1, 3), 0);
            b.due("in the object", x.takeBack(1, 2, 2), 0);
            b.due("in a term that is new", x.takeBack(1, 2, 99), 0);
            b.due("in the sequence", x.takeBack(3, 2, 1), 0);
            b.due("triples()", x.triples(), 2);
            b.due("terms()", x.terms(), 3);
        });
        b.test("60 triples from the first one on", x -> dueTakenBack(1, 0));
        b.test("60 triples from the last one on", x -> dueTakenBack(59, 59));
        b.test("60 triples in a mixed sequence", x -> dueTakenBack(23, 11));
    }

    private void dueTakenBack(int step, int start) {
        Used y = World.SIXTY.make();
        for (int k = 0; k < 60; k++) {
            int which = (start + k * step) % 60;
            b.due("takeBack " + which, y.takeBack(which / 4, which % 4, 99), 1);
            b.due("takeBack again " + which, y.takeBack(which / 4, which % 4, 99), 0);
            b.due("triples()", y.triples(), 59 - k);
            b.due("count", y.count(-1, -1, 99), 59 - k);
        }
        b.due("terms()", y.terms(), 16);
    }

    private void takeBackOutOfRange() {
        b.sentence("Throws IllegalArgumentException if subject, predicate or object is out of range");
        b.refuses("takeBack(-1, -1, 5)", Bounds.BAD, x -> x.takeBack(-1, -1, 5), World.ALL);
        b.refuses("takeBack(100, 5, 100)", Bounds.BAD, x -> x.takeBack(100, 5, 100), World.ALL);
        b.refuses("takeBack(7, 8, 109)", Bounds.BAD, x -> x.takeBack(7, 8, 109), World.ALL);
        b.refuses("takeBack(MAX, MIN, MAX)", Bounds.BAD, x -> x.takeBack(Bounds.MAX, Bounds.MIN, Bounds.MAX),
                World.ALL);
    }

    private void triples() {
        b.sentence("Returns how many triples there are");
        b.allows("triples() of none", 0, Used::triples, World.EMPTY);
        b.allows("triples() of 4", 4, Used::triples, World.SOME);
        b.allows("triples() of 60", 60, Used::triples, World.SIXTY, World.FULL);
        b.test("from none to 60 and back", x -> {
            for (int k = 0; k < 60; k++) {
                b.due("triples()", x.triples(), k);
                x.state(k / 4, k % 4, 99);
            }
            b.due("triples()", x.triples(), 60);
            b.dueThrow("the 61st", x, y -> y.state(99, 99, 99), Bounds.NOT_NOW);
            b.due("triples()", x.triples(), 60);
            for (int k = 59; k >= 0; k--) {
                x.takeBack(k / 4, k % 4, 99);
                b.due("triples()", x.triples(), k);
            }
        });
    }

    private void termAtParts() {
        b.sentence("order: 0 to 2");
        b.allows("termAt(0, 0, 0)", 7, x -> x.termAt(0, 0, 0), World.SOME);
        b.allows("termAt(2, 0, 0)", 7, x -> x.termAt(2, 0, 0), World.SOME);
        b.refusesBeyond(0, 2, "termAt(%d, 0, 0)", (x, order) -> x.termAt(order, 0, 0), Bounds.BAD, World.ALL);
        b.sentence("place: 0 for the first triple");
        b.test("the first triples of three orders", x -> {
            x.state(1, 2, 3);
            x.state(2, 1, 3);
            x.state(3, 3, 1);
            b.due("termAt(0, 0, 0)", x.termAt(0, 0, 0), 1);
            b.due("termAt(1, 0, 1)", x.termAt(1, 0, 1), 1);
            b.due("termAt(2, 0, 2)", x.termAt(2, 0, 2), 1);
        });
        b.allows("termAt(1, 59, 1) of 60", 3, x -> x.termAt(1, 59, 1), World.SIXTY);
        b.allows("termAt(0, 59, 0) of 60", 14, x -> x.termAt(0, 59, 0), World.SIXTY);
        b.sentence("part: 0 its subject, 1 its predicate, 2 its object");
        b.allows("termAt(0, 2, 0)", 8, x -> x.termAt(0, 2, 0), World.SOME);
        b.allows("termAt(0, 2, 1)", 9, x -> x.termAt(0, 2, 1), World.SOME);
        b.allows("termAt(0, 2, 2)", 7, x -> x.termAt(0, 2, 2), World.SOME);
        b.refusesBeyond(0, 2, "termAt(0, 0, %d)", (x, part) -> x.termAt(0, 0, part), Bounds.BAD, World.ALL);
    }

    private void termAtReturns() {
        b.sentence("Returns a term of a triple by its place in an order");
        b.test("the only triple has all its terms in each order", x -> {
            x.state(99, 0, 50);
            for (int order = 0; order < 3; order++) {
                b.due("termAt(" + order + ", 0, 0)", x.termAt(order, 0, 0), 99);
                b.due("termAt(" + order + ", 0, 1)", x.termAt(order, 0, 1), 0);
                b.due("termAt(" + order + ", 0, 2)", x.termAt(order, 0, 2), 50);
            }
        });
        b.test("all places of a full store", x -> {
            Used y = World.SIXTY.make();
            for (int place = 0; place < 60; place++) {
                int subject = y.termAt(0, place, 0);
                int predicate = y.termAt(0, place, 1);
                b.due("the place " + place, subject * 4 + predicate >= 0 ? y.count(subject, predicate, 99) : 0, 1);
                b.due("its object", y.termAt(0, place, 2), 99);
            }
        });
        b.test("when the first or the last triple goes the others move up or stay", x -> {
            x.state(1, 1, 1);
            x.state(2, 2, 2);
            x.state(3, 3, 3);
            x.takeBack(1, 1, 1);
            b.due("termAt(1, 0, 0)", x.termAt(1, 0, 0), 2);
            b.due("termAt(1, 1, 0)", x.termAt(1, 1, 0), 3);
            x.takeBack(3, 3, 3);
            b.due("termAt(2, 0, 0)", x.termAt(2, 0, 0), 2);
            b.dueThrow("termAt(2, 1, 0)", x, y -> y.termAt(2, 1, 0), Bounds.OUT);
        });
    }

    private void termAtThrows() {
        b.sentence("Throws IllegalArgumentException if order or part is out of range");
        b.refuses("termAt(-1, 0, -1)", Bounds.BAD, x -> x.termAt(-1, 0, -1), World.ALL);
        b.refuses("termAt(3, 0, 3)", Bounds.BAD, x -> x.termAt(3, 0, 3), World.ALL);
        b.refuses("termAt(3, 60, 0)", Bounds.BAD, x -> x.termAt(3, 60, 0), World.ALL);
        b.refuses("termAt(0, 60, 3)", Bounds.BAD, x -> x.termAt(0, 60, 3), World.ALL);
        b.refuses("termAt(MIN, MIN, MIN)", Bounds.BAD, x -> x.termAt(Bounds.MIN, Bounds.MIN, Bounds.MIN), World.ALL);
        b.sentence("Throws IndexOutOfBoundsException if there is no such triple");
        for (int k = 0; k < 3; k++) {
            int order = k;
            b.refuses("termAt(" + order + ", 0, 0) of none", Bounds.OUT, x -> x.termAt(order, 0, 0), World.EMPTY);
            b.allows("termAt(" + order + ", 3, 2) of 4", k == 2 ? 9 : 7, x -> x.termAt(order, 3, 2), World.SOME);
            b.refuses("termAt(" + order + ", 4, 2) of 4", Bounds.OUT, x -> x.termAt(order, 4, 2), World.SOME);
            b.allows("termAt(" + order + ", 59, 2) of 60", 99, x -> x.termAt(order, 59, 2), World.SIXTY);
            b.refusesBeyond(0, 59, "termAt(" + order + ", %d, 1) of 60", (x, place) -> x.termAt(order, place, 1),
                    Bounds.OUT, World.ALL);
        }
        b.test("the place that a triple had that was taken back", x -> {
            Used y = World.SIXTY.make();
            y.takeBack(0, 0, 99);
            b.due("termAt(0, 58, 0)", y.termAt(0, 58, 0), 14);
            b.dueThrow("termAt(0, 59, 0)", y, z -> z.termAt(0, 59, 0), Bounds.OUT);
        });
    }

    private void terms() {
        b.sentence("Returns how many terms the dictionary has");
        b.allows("terms() of none", 0, Used::terms, World.EMPTY);
        b.allows("terms() of 6", 6, Used::terms, World.SOME);
        b.allows("terms() of 40", 40, Used::terms, World.FORTY, World.FULL);
        b.test("from none to 40, and then no more", x -> {
            for (int term = 0; term < 40; term++) {
                b.due("terms()", x.terms(), term);
                x.state(term, 0, term);
            }
            b.due("terms()", x.terms(), 40);
            b.dueThrow("the 41st", x, y -> y.state(0, 0, 40), Bounds.NOT_NOW);
            b.due("terms()", x.terms(), 40);
            for (int term = 0; term < 40; term++) {
                x.takeBack(term, 0, term);
            }
            b.due("terms() of no triples", x.terms(), 40);
        });
    }

    private void numberOf() {
        b.sentence("Returns the number of a term in the dictionary, -1 if it has none");
        b.allows("numberOf(0) of no terms", -1, x -> x.numberOf(0), World.EMPTY);
        b.allows("numberOf(99) of no terms", -1, x -> x.numberOf(99), World.EMPTY);
        b.allows("numberOf(7), the first", 0, x -> x.numberOf(7), World.SOME);
        b.allows("numberOf(70), the last, of a triple taken back", 5, x -> x.numberOf(70), World.SOME);
        b.allows("numberOf(71)", -1, x -> x.numberOf(71), World.SOME);
        b.allows("numberOf(0) of 40", 0, x -> x.numberOf(0), World.FORTY);
        b.allows("numberOf(39) of 40", 39, x -> x.numberOf(39), World.FORTY);
        b.allows("numberOf(40) of 40", -1, x -> x.numberOf(40), World.FORTY);
        b.sentence("term: 0 to 99");
        b.allows("numberOf(0), the number 0", 0, x -> x.numberOf(0), World.SIXTY);
        b.allows("numberOf(99)", 1, x -> x.numberOf(99), World.SIXTY);
        b.sentence("Throws IllegalArgumentException if term is out of range");
        b.refusesBeyond(0, 99, "numberOf(%d)", Used::numberOf, Bounds.BAD, World.ALL);
    }

    private void termOf() {
        b.sentence("Returns the term with a number");
        b.allows("termOf(0)", 7, x -> x.termOf(0), World.SOME);
        b.allows("termOf(5), of a triple taken back", 70, x -> x.termOf(5), World.SOME);
        b.allows("termOf(0) of 40", 0, x -> x.termOf(0), World.FORTY, World.FULL);
        b.allows("termOf(39) of 40", 39, x -> x.termOf(39), World.FORTY);
        b.allows("termOf(39) of 40", 99, x -> x.termOf(39), World.FULL);
        b.sentence("Throws IndexOutOfBoundsException if there is no such number in the dictionary");
        b.refuses("termOf(0) of no terms", Bounds.OUT, x -> x.termOf(0), World.EMPTY);
        b.refuses("termOf(6) of 6", Bounds.OUT, x -> x.termOf(6), World.SOME);
        b.refuses("termOf(39) of 6", Bounds.OUT, x -> x.termOf(39), World.SOME);
        b.refusesBeyond(0, 39, "termOf(%d)", Used::termOf, Bounds.OUT, World.EMPTY, World.SOME, World.FULL,
                World.FORTY);
        b.refuses("termOf(63)", Bounds.OUT, x -> x.termOf(63), World.ALL);
    }
}
