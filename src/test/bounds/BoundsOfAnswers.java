/** The promises 19 to 24: the answers. */
final class BoundsOfAnswers {

    private static final String[] WAYS = {"answerByMerging()", "answerByVariables()", "answerByLoops()"};

    /** Three patterns with 20 * 10 * 10 answers. */
    private static final World JUST_ENOUGH = new World("an object with a query of 2000 answers", x -> {
        World.buildStar(x, 20, 10, 10);
        World.askStar(x);
    });

    /** Three patterns with 20 * 10 * 10 + 1 answers, and one answer kept of another query. */
    static final World ONE_TOO_MANY = new World("an object with a query of 2001 answers", x -> {
        World.buildStar(x, 20, 10, 10);
        x.state(0, 30, 34);
        x.state(0, 32, 34);
        x.state(0, 33, 34);
        keepOne(x, 1, 30, -2);
        World.askStar(x);
    });

    /** Two patterns with 40 * 50 answers. */
    private static final World TWO_JUST_ENOUGH = new World("an object with two patterns of 2000 answers", x -> {
        buildFortyTimesFifty(x);
        x.addPattern(-1, 30, -4);
        x.addPattern(-2, -3, -4);
    });

    private static final World TWO_ONE_TOO_MANY = new World("an object with two patterns of 2001 answers", x -> {
        buildFortyTimesFifty(x);
        x.state(0, 30, 33);
        keepOne(x, 1, 30, -2);
        x.addPattern(-1, 30, -4);
        x.addPattern(-2, -3, -4);
    });

    /** The most answers that two patterns can have: 60 * 60. */
    private static final World TWO_MOST = new World("an object with two patterns of 3600 answers", x -> {
        for (int k = 0; k < 60; k++) {
            x.state(k / 4, 3, 20 + k % 4 + k / 4);
        }
        keepOne(x, -2, 3, 20);
        x.addPattern(-1, 3, -2);
        x.addPattern(-3, 3, -4);
    });

    /** 40 * 40 * 40 answers, far more than may stand on the way. */
    private static final World THREE_MOST = new World("an object with three patterns of 64000 answers", x -> {
        for (int k = 0; k < 40; k++) {
            x.state(k, 0, 1);
        }
        keepOne(x, 0, 0, -2);
        x.addPattern(-1, 0, 1);
        x.addPattern(-2, 0, 1);
        x.addPattern(-3, 0, 1);
    });

    /** Triples, but no query now. */
    private static final World BARE = new World("an object with triples and no patterns",
            x -> World.buildStar(x, 20, 10, 10));

    private static final World FORGOTTEN = new World("a full object after forget", x -> {
        World.buildStar(x, 20, 10, 10);
        World.askStar(x);
        x.answerByLoops();
        x.forget();
    });

    private final Bounds b;

    private BoundsOfAnswers(Bounds b) {
        this.b = b;
    }

    static void addTo(Bounds b) {
        BoundsOfAnswers part = new BoundsOfAnswers(b);
        b.section("Promise 19: answerByMerging");
        b.sentence("Answers the query by merge joins, in the join order, and keeps the answers");
        part.answering(0);
        b.section("Promise 20: answerByVariables");
        b.sentence("Answers the query variable by variable, and keeps the answers: each variable takes the terms that"
                + " all patterns with it allow together");
        part.answering(1);
        b.section("Promise 21: answerByLoops");
        b.sentence("Answers the query by nested loops over all triples, pattern by pattern, and keeps the answers");
        part.answering(2);
        b.section("Promise 22: answers");
        part.answers();
        b.section("Promise 23: answer");
        part.answerParts();
        part.answerThrows();
        b.section("Promise 24: termsFor");
        part.termsForReturns();
        part.termsForRange();
    }

    /** The pattern has one match, so that what is kept before a refused call can be told from nothing. */
    private static void keepOne(Used x, int subject, int predicate, int object) {
        x.addPattern(subject, predicate, object);
        x.answerByLoops();
        x.forget();
    }

    private static void buildFortyTimesFifty(Used x) {
        for (int k = 0; k < 40; k++) {
            x.state(k, 30, 31);
        }
        for (int k = 0; k < 10; k++) {
            x.state(k, 32, 31);
        }
    }

    private void answering(int way) {
        joins(way);
        keeps(way);
        b.sentence("Returns how many there are");
        returns(way);
        b.sentence("Throws IllegalStateException if the query has no patterns, or more than 2000 answers");
        refusals(way);
    }

    private void dueAnswer(Used x, int place, int... terms) {
        for (int variable = 0; variable < terms.length; variable++) {
            b.due("answer(" + place + ", " + variable + ")", x.answer(place, variable), terms[variable]);
        }
    }

    private void joins(int way) {
        b.test("patterns that share no variable", x -> {
            x.state(1, 50, 2);
            x.state(3, 50, 4);
            x.state(1, 60, 2);
            x.addPattern(-1, 50, -2);
            x.addPattern(-3, 60, -4);
            b.due("answers", x.answerBy(way), 2);
            dueAnswer(x, 0, 1, 2, 1, 2);
            dueAnswer(x, 1, 3, 4, 1, 2);
        });
        b.test("patterns that share one, two and three variables", x -> {
            x.state(1, 2, 3);
            x.state(1, 2, 1);
            x.state(3, 2, 1);
            x.state(3, 3, 1);
            x.addPattern(-1, -2, -3);
            x.addPattern(-3, 3, -4);
            b.due("one", x.answerBy(way), 1);
            dueAnswer(x, 0, 1, 2, 3, 1);
            x.forget();
            x.addPattern(-1, -2, -3);
            x.addPattern(-3, -4, -1);
            b.due("two", x.answerBy(way), 5);
            dueAnswer(x, 0, 1, 2, 1, 2);
            dueAnswer(x, 1, 1, 2, 3, 2);
            dueAnswer(x, 2, 1, 2, 3, 3);
            dueAnswer(x, 3, 3, 2, 1, 2);
            dueAnswer(x, 4, 3, 3, 1, 2);
            x.forget();
            x.addPattern(-1, -2, -3);
            x.addPattern(-3, -2, -1);
            b.due("three", x.answerBy(way), 3);
            dueAnswer(x, 0, 1, 2, 1);
            dueAnswer(x, 1, 1, 2, 3);
            dueAnswer(x, 2, 3, 2, 1);
        });
        b.test("patterns that each have matches, but none together", x -> {
            x.state(1, 50, 2);
            x.state(3, 60, 4);
            x.state(4, 70, 1);
            x.addPattern(-1, 50, -2);
            x.addPattern(-2, 60, -3);
            x.addPattern(-3, 70, -1);
            b.due("answers", x.answerBy(way), 0);
            x.state(2, 60, 4);
            b.due("answers", x.answerBy(way), 1);
            dueAnswer(x, 0, 1, 2, 4);
        });
        b.test("a pattern without matches beside two with 60", x -> {
            Used y = World.SIXTY.make();
            y.addPattern(-1, -2, -3);
            y.addPattern(-1, -2, -3);
            y.addPattern(-4, -4, -4);
            b.due("answers", y.answerBy(way), 0);
        });
        b.test("60 * 60 pairs of triples on the way to fewer answers", x -> {
            Used y = World.SIXTY.make();
            y.addPattern(-1, -2, 99);
            y.addPattern(-3, -4, 99);
            y.addPattern(-4, -3, 99);
            b.due("60 * 16", y.answerBy(way), 960);
            y.forget();
            y.addPattern(-1, 3, 99);
            y.addPattern(-3, -4, 99);
            y.addPattern(-1, -4, 99);
            b.due("15 * 60", y.answerBy(way), 900);
            y.forget();
            y.addPattern(-1, -2, -3);
            y.addPattern(-1, -2, -3);
            y.addPattern(-1, -2, -3);
            b.due("60", y.answerBy(way), 60);
        });
        b.test("the store is empty", x -> {
            x.addPattern(-1, -2, -3);
            b.due("answers", x.answerBy(way), 0);
            x.addPattern(-4, 0, 99);
            x.addPattern(5, 5, 5);
            b.due("answers", x.answerBy(way), 0);
        });
    }

    private void keeps(int way) {
        b.test("the answers kept stay through all calls that answer no query", x -> {
            x.state(1, 2, 3);
            x.addPattern(1, 2, -1);
            b.due("answers", x.answerBy(way), 1);
            x.takeBack(1, 2, 3);
            x.state(4, 2, 5);
            x.addPattern(-2, -3, -4);
            x.forget();
            x.addPattern(-4, -4, -4);
            b.due("answers()", x.answers(), 1);
            b.due("answer(0, 0)", x.answer(0, 0), 3);
            b.due("termsFor(0)", x.termsFor(0), 1);
            b.due("termsFor(3)", x.termsFor(3), 0);
        });
        b.test("2000 answers give way to none, to one and to 2000", x -> {
            Used y = World.FULL.make();
            y.beginQuery(0, 0, 1);
            b.due("none", y.answerBy(way), 0);
            b.due("answers()", y.answers(), 0);
            b.dueThrow("answer(0, 0)", y, z -> z.answer(0, 0), Bounds.OUT);
            y.beginQuery(-1, 33, 31);
            y.addPattern(-1, 30, 31);
            y.addPattern(9, 32, 31);
            b.due("10", y.answerBy(way), 10);
            b.dueThrow("answer(10, 0)", y, z -> z.answer(10, 0), Bounds.OUT);
            b.due("answer(9, 0)", y.answer(9, 0), 9);
            y.forget();
            World.askStar(y);
            b.due("2000", y.answerBy(way), 2000);
            dueAnswer(y, 1999, 19, 9, 9, 31);
        });
    }

    private void returns(int way) {
        b.test("no answer", x -> {
            x.addPattern(0, 0, 0);
            b.due(WAYS[way], x.answerBy(way), 0);
            b.due("answers()", x.answers(), 0);
        });
        b.test("one answer, with variables and without", x -> {
            x.state(0, 0, 0);
            x.addPattern(0, 0, 0);
            b.due(WAYS[way], x.answerBy(way), 1);
            x.addPattern(-1, -2, -3);
            b.due(WAYS[way], x.answerBy(way), 1);
            b.due("answers()", x.answers(), 1);
        });
        b.test("60 answers, the most of one pattern", x -> {
            Used y = World.SIXTY.make();
            y.addPattern(-1, -2, -3);
            b.due(WAYS[way], y.answerBy(way), 60);
            dueAnswer(y, 0, 0, 0, 99);
            dueAnswer(y, 59, 14, 3, 99);
        });
        b.test("2000 answers of two patterns", x -> {
            Used y = TWO_JUST_ENOUGH.make();
            b.due(WAYS[way], y.answerBy(way), 2000);
            b.due("answers()", y.answers(), 2000);
            dueAnswer(y, 0, 0, 0, 30, 31);
            dueAnswer(y, 1999, 39, 39, 30, 31);
        });
        b.test("2000 answers of three patterns", x -> {
            Used y = JUST_ENOUGH.make();
            b.due(WAYS[way], y.answerBy(way), 2000);
            b.due("answers()", y.answers(), 2000);
            dueAnswer(y, 0, 0, 0, 0, 31);
            dueAnswer(y, 1, 0, 0, 1, 31);
            dueAnswer(y, 1999, 19, 9, 9, 31);
        });
    }

    private void refusals(int way) {
        b.refuses(WAYS[way] + " of no patterns", Bounds.NOT_NOW, x -> x.answerBy(way), World.EMPTY, BARE, FORGOTTEN);
        b.refuses(WAYS[way] + " of 2001 answers", Bounds.NOT_NOW, x -> x.answerBy(way), ONE_TOO_MANY, TWO_ONE_TOO_MANY);
        b.refuses(WAYS[way] + " of 3600 answers of two patterns", Bounds.NOT_NOW, x -> x.answerBy(way), TWO_MOST);
        b.refuses(WAYS[way] + " of 64000 answers of three patterns", Bounds.NOT_NOW, x -> x.answerBy(way), THREE_MOST);
        b.test("2000 answers after 2001", x -> {
            Used y = ONE_TOO_MANY.make();
            b.dueThrow("2001 answers", y, z -> z.answerBy(way), Bounds.NOT_NOW);
            y.takeBack(0, 33, 34);
            b.due(WAYS[way], y.answerBy(way), 2000);
            dueAnswer(y, 1999, 19, 9, 9, 31);
            y.state(0, 33, 34);
            b.dueThrow("2001 answers", y, z -> z.answerBy(way), Bounds.NOT_NOW);
            b.due("answers()", y.answers(), 2000);
        });
        b.test("40 answers after 64000", x -> {
            for (int next = 0; next < 3; next++) {
                Used y = THREE_MOST.make();
                b.dueThrow("64000 answers", y, z -> z.answerBy(way), Bounds.NOT_NOW);
                b.due("answers()", y.answers(), 1);
                y.beginQuery(-1, 0, -2);
                b.due(WAYS[next], y.answerBy(next), 40);
                dueAnswer(y, 39, 39, 1);
            }
        });
    }

    private void answers() {
        b.sentence("Returns how many answers were kept by the latest call that answered a query");
        b.allows("answers() of 2", 2, Used::answers, World.SOME);
        b.allows("answers() of 2000", 2000, Used::answers, World.FULL, FORGOTTEN);
        b.test("none, one and 60", x -> {
            Used y = World.SIXTY.make();
            y.addPattern(-1, 99, 99);
            y.answerByMerging();
            b.due("answers()", y.answers(), 0);
            y.beginQuery(0, 0, -4);
            y.answerByVariables();
            b.due("answers()", y.answers(), 1);
            y.beginQuery(-1, -2, -3);
            y.answerByLoops();
            b.due("answers()", y.answers(), 60);
            y.beginQuery(1, 2, 3);
            y.answerByLoops();
            b.due("answers()", y.answers(), 0);
        });
        b.test("a call that was refused has answered no query", x -> {
            for (int w = 0; w < 3; w++) {
                int way = w;
                Used y = ONE_TOO_MANY.make();
                b.dueThrow(WAYS[way], y, z -> z.answerBy(way), Bounds.NOT_NOW);
                b.due("answers()", y.answers(), 1);
                y.forget();
                b.dueThrow(WAYS[way], y, z -> z.answerBy(way), Bounds.NOT_NOW);
                b.due("answers()", y.answers(), 1);
            }
        });
        b.sentence("0 if there was none");
        b.allows("answers() of a new object", 0, Used::answers, World.EMPTY);
        b.allows("answers() of a query that was not answered", 0, Used::answers, JUST_ENOUGH);
        b.test("when the only call was refused", x -> {
            b.dueThrow("no patterns", x, Used::answerByLoops, Bounds.NOT_NOW);
            b.due("answers()", x.answers(), 0);
        });
    }

    private void answerParts() {
        b.sentence("Returns the term for a variable in an answer that was kept");
        b.test("the only answer, and after the triple and its query are gone", x -> {
            x.state(0, 99, 50);
            x.addPattern(-4, -1, -3);
            x.answerByMerging();
            b.due("answer(0, 0)", x.answer(0, 0), 99);
            b.due("answer(0, 2)", x.answer(0, 2), 50);
            b.due("answer(0, 3)", x.answer(0, 3), 0);
            x.forget();
            x.takeBack(0, 99, 50);
            b.due("answer(0, 0)", x.answer(0, 0), 99);
            b.due("answer(0, 2)", x.answer(0, 2), 50);
            b.due("answer(0, 3)", x.answer(0, 3), 0);
        });
        b.sentence("place: 0 for the first answer");
        b.allows("answer(0, 0) of 2", 7, x -> x.answer(0, 0), World.SOME);
        b.allows("answer(1, 0) of 2", 9, x -> x.answer(1, 0), World.SOME);
        b.allows("answer(0, 0) of 2000", 0, x -> x.answer(0, 0), World.FULL);
        b.allows("answer(1999, 0) of 2000", 19, x -> x.answer(1999, 0), World.FULL);
        b.sentence("variable: 0 to 3");
        b.allows("answer(1999, 1)", 9, x -> x.answer(1999, 1), World.FULL);
        b.allows("answer(1999, 3)", 31, x -> x.answer(1999, 3), World.FULL);
        b.refusesBeyond(0, 3, "answer(0, %d)", (x, variable) -> x.answer(0, variable), Bounds.BAD, World.SOME,
                World.FULL, FORGOTTEN);
    }

    private void answerThrows() {
        b.sentence("Throws IndexOutOfBoundsException if there is no such answer");
        b.refuses("answer(0, 0) of no answers", Bounds.OUT, x -> x.answer(0, 0), World.EMPTY, JUST_ENOUGH);
        b.refusesBeyond(0, 1, "answer(%d, 0) of 2", (x, place) -> x.answer(place, 0), Bounds.OUT, World.SOME);
        b.refusesBeyond(0, 1999, "answer(%d, 3) of 2000", (x, place) -> x.answer(place, 3), Bounds.OUT, World.ALL);
        b.refuses("answer(0, 4) of no answers", Bounds.OUT, x -> x.answer(0, 4), World.EMPTY);
        b.refuses("answer(2000, -1) of 2000", Bounds.OUT, x -> x.answer(2000, -1), World.FULL);
        World none = new World("an object whose query had no answers", x -> {
            x.state(1, 2, 3);
            x.addPattern(-1, 2, 3);
            x.answerByLoops();
            x.addPattern(-1, 2, 2);
            x.answerByLoops();
        });
        b.refuses("answer(0, 0) of no answers", Bounds.OUT, x -> x.answer(0, 0), none);
        b.sentence("Throws IllegalArgumentException if variable is out of range, or was none of the query that was"
                + " answered");
        b.refuses("answer(1, 4)", Bounds.BAD, x -> x.answer(1, 4), World.SOME, World.FULL);
        b.refuses("answer(1, -1)", Bounds.BAD, x -> x.answer(1, -1), World.SOME, World.FULL);
        b.refuses("answer(0, 3), none of the query", Bounds.BAD, x -> x.answer(0, 3), World.SOME);
        for (int k = 0; k < 4; k++) {
            int variable = k;
            World without = new World("an object whose query had no variables", x -> {
                x.state(1, 2, 3);
                x.addPattern(1, 2, 3);
                x.answerByVariables();
            });
            b.refuses("answer(0, " + variable + ") of no variables", Bounds.BAD, x -> x.answer(0, variable), without);
            World others = new World("an object whose query had the other variables", x -> {
                x.state(1, 2, 3);
                x.addPattern(variable == 0 ? 1 : -1, variable == 1 ? 2 : -2, variable == 2 ? 3 : -3);
                x.addPattern(variable == 3 ? 1 : -4, 2, 3);
                x.answerByMerging();
            });
            b.refuses("answer(0, " + variable + ") of the others", Bounds.BAD, x -> x.answer(0, variable), others);
        }
        b.test("a variable of a later query that was not answered", x -> {
            Used y = World.SOME.make();
            y.beginQuery(-4, -4, -4);
            b.dueThrow("answer(0, 3)", y, z -> z.answer(0, 3), Bounds.BAD);
            b.due("answer(0, 0)", y.answer(0, 0), 7);
        });
    }

    private void termsForReturns() {
        b.sentence("Returns how many unlike terms a variable has in the answers that were kept");
        b.test("one term in 2000 answers, 10 terms and 20", x -> {
            Used y = World.FULL.make();
            b.due("termsFor(0)", y.termsFor(0), 20);
            b.due("termsFor(1)", y.termsFor(1), 10);
            b.due("termsFor(2)", y.termsFor(2), 10);
            b.due("termsFor(3)", y.termsFor(3), 1);
        });
        b.test("40 terms, the most that there are", x -> {
            Used y = World.FORTY.make();
            y.addPattern(-1, -4, -3);
            y.answerByVariables();
            b.due("termsFor(0)", y.termsFor(0), 40);
            b.due("termsFor(2)", y.termsFor(2), 40);
            b.due("termsFor(3)", y.termsFor(3), 40);
        });
        b.test("one answer", x -> {
            x.state(0, 99, 0);
            x.addPattern(-1, -4, -3);
            x.answerByLoops();
            b.due("termsFor(0)", x.termsFor(0), 1);
            b.due("termsFor(2)", x.termsFor(2), 1);
            b.due("termsFor(3)", x.termsFor(3), 1);
        });
        b.test("no answers", x -> {
            Used y = World.FULL.make();
            y.beginQuery(-1, 83, -2);
            y.answerByMerging();
            for (int variable = 0; variable < 4; variable++) {
                b.due("termsFor(" + variable + ")", y.termsFor(variable), 0);
            }
        });
        b.test("those kept count, and not those of a later query or store", x -> {
            Used y = World.SOME.make();
            y.beginQuery(-4, 8, 9);
            y.takeBack(7, 8, 9);
            b.due("termsFor(0)", y.termsFor(0), 2);
            b.due("termsFor(3)", y.termsFor(3), 0);
        });
        b.sentence("0 for a variable that was none of the query that was answered");
        b.allows("termsFor(3)", 0, x -> x.termsFor(3), World.SOME);
        b.test("one answer without variables, and a new object", x -> {
            for (int variable = 0; variable < 4; variable++) {
                b.due("termsFor(" + variable + ") of a new object", x.termsFor(variable), 0);
            }
            x.state(5, 5, 5);
            x.addPattern(5, 5, 5);
            b.due("answerByVariables()", x.answerByVariables(), 1);
            for (int variable = 0; variable < 4; variable++) {
                b.due("termsFor(" + variable + ")", x.termsFor(variable), 0);
            }
        });
    }

    private void termsForRange() {
        b.sentence("variable: 0 to 3");
        b.allows("termsFor(0)", 2, x -> x.termsFor(0), World.SOME);
        b.allows("termsFor(3)", 1, x -> x.termsFor(3), World.FULL);
        b.allows("termsFor(3) of a new object", 0, x -> x.termsFor(3), World.EMPTY);
        b.sentence("Throws IllegalArgumentException if variable is out of range");
        b.refusesBeyond(0, 3, "termsFor(%d)", Used::termsFor, Bounds.BAD, World.EMPTY, World.SOME, World.FULL,
                FORGOTTEN);
    }
}
