/** The promises 12 to 18: the query. */
final class BoundsOfQuery {

    private final Bounds b;

    private BoundsOfQuery(Bounds b) {
        this.b = b;
    }

    static void addTo(Bounds b) {
        BoundsOfQuery part = new BoundsOfQuery(b);
        b.section("Promise 12: forget");
        part.forget();
        b.section("Promise 13: addPattern");
        part.addPatternNewTerm();
        part.addPatternParts();
        part.addPatternReturns();
        part.addPatternThrows();
        b.section("Promise 14: patterns");
        part.patterns();
        b.section("Promise 15: matches");
        part.matchesReturns();
        part.matchesThrows();
        b.section("Promise 16: variables");
        part.variables();
        b.section("Promise 17: shape");
        part.star();
        part.chain();
        part.both();
        part.neither();
        b.section("Promise 18: joined");
        part.joinedFirst();
        part.joinedThen();
        part.joinedPlaces();
    }

    private void forget() {
        b.sentence("Begins a query without patterns");
        b.test("nothing of the full query is left", x -> {
            Used y = World.FULL.make();
            y.forget();
            b.due("patterns()", y.patterns(), 0);
            b.due("variables()", y.variables(), 0);
            b.due("shape()", y.shape(), 0);
            for (int k = 0; k < 3; k++) {
                int index = k;
                b.dueThrow("matches(" + index + ")", y, z -> z.matches(index), Bounds.OUT);
                b.dueThrow("joined(" + index + ")", y, z -> z.joined(index), Bounds.OUT);
                b.dueThrow("an answer by the way " + index, y, z -> z.answerBy(index), Bounds.NOT_NOW);
            }
            b.due("addPattern", y.addPattern(0, 30, -2), 0);
            b.due("variables()", y.variables(), 2);
            b.due("matches(0)", y.matches(0), 1);
        });
        b.test("triples, terms and kept answers stay", x -> {
            Used y = World.FULL.make();
            y.forget();
            b.due("triples()", y.triples(), 60);
            b.due("terms()", y.terms(), 40);
            b.due("answers()", y.answers(), 2000);
            b.due("answer(1999, 3)", y.answer(1999, 3), 31);
            b.due("termsFor(0)", y.termsFor(0), 20);
        });
        b.sentence("Returns how many patterns there were");
        b.test("none to 3, and none again", x -> {
            for (int patterns = 0; patterns <= 3; patterns++) {
                for (int k = 0; k < patterns; k++) {
                    x.addPattern(-1, k, -1);
                }
                b.due("forget()", x.forget(), patterns);
                b.due("forget() again", x.forget(), 0);
            }
        });
        b.test("a pattern that was refused does not count", x -> {
            b.dueThrow("addPattern(100, 0, 0)", x, y -> y.addPattern(100, 0, 0), Bounds.BAD);
            b.due("forget()", x.forget(), 0);
            Used y = World.FULL.make();
            b.dueThrow("the fourth", y, z -> z.addPattern(0, 0, 0), Bounds.NOT_NOW);
            b.due("forget()", y.forget(), 3);
        });
    }

    private void addPatternNewTerm() {
        b.plain("Adds a pattern to the query");
        b.sentence("A term that the dictionary does not have gets no number by that");
        b.test("not in the empty dictionary", x -> {
            x.addPattern(0, 99, 50);
            b.due("terms()", x.terms(), 0);
            b.due("numberOf(0)", x.numberOf(0), -1);
            b.due("numberOf(99)", x.numberOf(99), -1);
            b.due("numberOf(50)", x.numberOf(50), -1);
            b.due("matches(0)", x.matches(0), 0);
        });
        b.test("nor in the full one, where it is still taken", x -> {
            Used y = World.FORTY.make();
            b.due("addPattern(40, -1, 99)", y.addPattern(40, -1, 99), 0);
            b.due("terms()", y.terms(), 40);
            b.due("numberOf(40)", y.numberOf(40), -1);
            b.due("matches(0)", y.matches(0), 0);
        });
        b.test("it is found when it gets its number later", x -> {
            x.addPattern(-1, 5, -2);
            b.due("matches(0)", x.matches(0), 0);
            b.due("answerByLoops()", x.answerByLoops(), 0);
            x.state(6, 5, 4);
            b.due("numberOf(6)", x.numberOf(6), 0);
            b.due("matches(0)", x.matches(0), 1);
            b.due("answerByLoops()", x.answerByLoops(), 1);
            b.due("answerByMerging()", x.answerByMerging(), 1);
            b.due("answerByVariables()", x.answerByVariables(), 1);
        });
    }

    private void addPatternParts() {
        World ends = new World("an object with the terms 0 and 99", x -> {
            x.state(0, 0, 0);
            x.state(99, 99, 99);
        });
        b.sentence("subject: a term, 0 to 99, or a variable, -1 to -4");
        for (int told : new int[] {0, 99, -1, -4}) {
            dueTaken(ends, told, told, -2, -3);
        }
        b.refusesBeyond(-4, 99, "addPattern(%d, 0, 0)", (x, told) -> x.addPattern(told, 0, 0), Bounds.BAD, World.ALL);
        b.sentence("predicate: a term, 0 to 99, or a variable, -1 to -4");
        for (int told : new int[] {0, 99, -1, -4}) {
            dueTaken(ends, told, -2, told, -3);
        }
        b.refusesBeyond(-4, 99, "addPattern(0, %d, 0)", (x, told) -> x.addPattern(0, told, 0), Bounds.BAD, World.ALL);
        b.sentence("object: a term, 0 to 99, or a variable, -1 to -4");
        for (int told : new int[] {0, 99, -1, -4}) {
            dueTaken(ends, told, -2, -3, told);
        }
        b.refusesBeyond(-4, 99, "addPattern(0, 0, %d)", (x, told) -> x.addPattern(0, 0, told), Bounds.BAD, World.ALL);
    }

    /** What is told is a term that one of two triples has, or a variable for both. */
    private void dueTaken(World world, int told, int subject, int predicate, int object) {
        b.test("addPattern(" + subject + ", " + predicate + ", " + object + ") is allowed", x -> {
            Used y = world.make();
            b.due("addPattern", y.addPattern(subject, predicate, object), 0);
            b.due("variables()", y.variables(), 6 | (told < 0 ? 1 << (-1 - told) : 0));
            b.due("matches(0)", y.matches(0), told < 0 ? 2 : 1);
            b.due("answerByMerging()", y.answerByMerging(), told < 0 ? 2 : 1);
            b.due("answer(0, 1)", y.answer(0, 1), told < 0 ? 0 : told);
        });
    }

    private void addPatternReturns() {
        b.sentence("Returns its number");
        b.test("0, 1 and 2, and 0 again after forget", x -> {
            b.due("the first", x.addPattern(0, 0, 0), 0);
            b.due("the second", x.addPattern(-1, -1, -1), 1);
            b.due("the third", x.addPattern(99, 99, 99), 2);
            x.forget();
            b.due("the first", x.addPattern(-4, -4, -4), 0);
        });
        b.test("one that is refused takes no number", x -> {
            b.due("the first", x.addPattern(0, 0, 0), 0);
            b.dueThrow("addPattern(0, 0, -5)", x, y -> y.addPattern(0, 0, -5), Bounds.BAD);
            b.due("the second", x.addPattern(0, 0, 0), 1);
        });
    }

    private void addPatternThrows() {
        b.sentence("Throws IllegalArgumentException if subject, predicate or object is out of range");
        b.refuses("addPattern(-5, -5, 0)", Bounds.BAD, x -> x.addPattern(-5, -5, 0), World.ALL);
        b.refuses("addPattern(100, 0, 100)", Bounds.BAD, x -> x.addPattern(100, 0, 100), World.ALL);
        b.refuses("addPattern(-1, 100, -5)", Bounds.BAD, x -> x.addPattern(-1, 100, -5), World.ALL);
        b.refuses("addPattern(MIN, MAX, MIN)", Bounds.BAD, x -> x.addPattern(Bounds.MIN, Bounds.MAX, Bounds.MIN),
                World.ALL);
        b.sentence("Throws IllegalStateException if there are 3 patterns");
        World two = new World("an object with 2 patterns", x -> {
            x.addPattern(-1, 2, 3);
            x.addPattern(-2, 2, 3);
        });
        b.allows("addPattern(-3, 2, 3), the third", 2, x -> x.addPattern(-3, 2, 3), two);
        b.refuses("addPattern(-3, 2, 3), the fourth", Bounds.NOT_NOW, x -> x.addPattern(-3, 2, 3), World.FULL);
        b.refuses("addPattern(0, 0, 0), the fourth", Bounds.NOT_NOW, x -> x.addPattern(0, 0, 0), World.FULL);
        b.allows("addPattern(0, 0, 0), the fourth after forget", 0, x -> {
            x.forget();
            return x.addPattern(0, 0, 0);
        }, World.FULL);
    }

    private void patterns() {
        b.sentence("Returns how many patterns the query has");
        b.allows("patterns() of none", 0, Used::patterns, World.EMPTY);
        b.allows("patterns() of 2", 2, Used::patterns, World.SOME);
        b.allows("patterns() of 3", 3, Used::patterns, World.FULL);
        b.test("from none to 3, a fourth that is refused, and none", x -> {
            for (int patterns = 0; patterns < 3; patterns++) {
                b.due("patterns()", x.patterns(), patterns);
                x.addPattern(1, 1, 1);
            }
            b.due("patterns()", x.patterns(), 3);
            b.dueThrow("the fourth", x, y -> y.addPattern(1, 1, 1), Bounds.NOT_NOW);
            b.due("patterns()", x.patterns(), 3);
            x.forget();
            b.due("patterns()", x.patterns(), 0);
        });
    }

    private void matchesReturns() {
        b.sentence("Returns how many triples match a pattern by itself");
        b.test("none in the empty store", x -> {
            x.addPattern(-1, -2, -3);
            x.addPattern(0, 0, 0);
            b.due("matches(0)", x.matches(0), 0);
            b.due("matches(1)", x.matches(1), 0);
        });
        b.test("60 of 60, and one of them", x -> {
            Used y = World.SIXTY.make();
            y.addPattern(-4, -3, -2);
            y.addPattern(-4, -3, 99);
            y.addPattern(14, 3, 99);
            b.due("matches(0)", y.matches(0), 60);
            b.due("matches(1)", y.matches(1), 60);
            b.due("matches(2)", y.matches(2), 1);
            y.takeBack(14, 3, 99);
            b.due("matches(0)", y.matches(0), 59);
            b.due("matches(2)", y.matches(2), 0);
        });
        b.test("by itself: what other patterns leave does not count", x -> {
            x.state(1, 2, 3);
            x.state(3, 2, 1);
            x.addPattern(-1, 2, -2);
            x.addPattern(-1, 2, 99);
            b.due("matches(0)", x.matches(0), 2);
            b.due("matches(1)", x.matches(1), 0);
        });
    }

    private void matchesThrows() {
        b.sentence("Throws IndexOutOfBoundsException if there is no such pattern");
        b.refusesBeyond(0, 0, "matches(%d)", Used::matches, Bounds.OUT, World.EMPTY);
        b.refuses("matches(0) of no patterns", Bounds.OUT, x -> x.matches(0), World.EMPTY);
        b.allows("matches(0) of 2", 2, x -> x.matches(0), World.SOME);
        b.allows("matches(1) of 2", 4, x -> x.matches(1), World.SOME);
        b.refusesBeyond(0, 1, "matches(%d) of 2", Used::matches, Bounds.OUT, World.SOME);
        b.allows("matches(0) of 3", 20, x -> x.matches(0), World.FULL);
        b.allows("matches(2) of 3", 10, x -> x.matches(2), World.FULL);
        b.refusesBeyond(0, 2, "matches(%d) of 3", Used::matches, Bounds.OUT, World.FULL);
        World forgotten = new World("a full object after forget", x -> {
            World.buildStar(x, 3, 3, 3);
            World.askStar(x);
            x.answerByLoops();
            x.forget();
        });
        b.refuses("matches(0) after forget", Bounds.OUT, x -> x.matches(0), forgotten);
    }

    private void dueVariables(int want, int... told) {
        b.test("the variables " + want + " of " + java.util.Arrays.toString(told), x -> {
            addAll(x, told);
            b.due("variables()", x.variables(), want);
        });
    }

    private static void addAll(Used x, int... told) {
        for (int k = 0; k + 2 < told.length; k += 3) {
            x.addPattern(told[k], told[k + 1], told[k + 2]);
        }
    }

    private void variables() {
        b.sentence("Returns the variables of the query, as bits: 1 for the variable 0, 2 for 1, 4 for 2, 8 for 3");
        dueVariables(0);
        dueVariables(0, 0, 99, 0);
        dueVariables(0, 0, 99, 0, 1, 2, 3, 99, 99, 99);
        for (int k = 0; k < 4; k++) {
            dueVariables(1 << k, -1 - k, 0, 99);
            dueVariables(1 << k, 0, -1 - k, 99);
            dueVariables(1 << k, 0, 99, -1 - k);
            dueVariables(1 << k, -1 - k, -1 - k, -1 - k, -1 - k, 0, 0);
        }
        dueVariables(7, -1, -2, -3);
        dueVariables(14, -4, -3, -2);
        dueVariables(15, -4, -3, -2, -1, -2, -3);
        dueVariables(15, -4, 0, 0, 0, -3, -2, 0, 0, -1);
        b.test("no more after forget", x -> {
            Used y = World.FULL.make();
            b.due("variables()", y.variables(), 15);
            y.forget();
            b.due("variables()", y.variables(), 0);
            y.addPattern(0, 0, -3);
            b.due("variables()", y.variables(), 4);
        });
    }

    private void dueShape(int want, int... told) {
        b.test("the shape " + want + " of " + java.util.Arrays.toString(told), x -> {
            addAll(x, told);
            b.due("shape()", x.shape(), want);
        });
    }

    private void star() {
        b.sentence("Returns the shape of the query: 1 a star: it has 2 patterns or more, and all of them have the same"
                + " variable as subject");
        dueShape(1, -1, 0, 99, -1, 99, 0);
        dueShape(1, -4, 0, 99, -4, 99, 0, -4, 0, 99);
        dueShape(1, -1, 5, -2, -1, 6, -3);
        dueShape(1, -1, 5, -2, -1, 6, -1);
        dueShape(1, -1, 5, -1, -1, 6, -2, -1, 6, -3);
        dueShape(0, -1, 5, 6);
        dueShape(0, -1, 5, 6, -2, 5, 6);
        dueShape(0, -1, 5, 6, -1, 5, 6, -2, 5, 6);
        dueShape(0, -2, 5, 6, -1, 5, 6, -1, 5, 6);
        dueShape(0, -1, 5, 6, -2, 5, 6, -1, 5, 6);
        dueShape(0, 0, 5, 6, 0, 5, 6);
        dueShape(0, 99, 5, 6, 99, 5, 6, 99, 5, 6);
    }

    private void chain() {
        b.sentence("2 a chain: it has 2 patterns or more, and the object of each but the last one is a variable, and"
                + " the subject of the next one");
        dueShape(2, 0, 5, -1, -1, 5, 99);
        dueShape(2, 0, 5, -4, -4, 5, -1);
        dueShape(2, 0, 5, -1, -1, 5, -2, -2, 5, 0);
        dueShape(2, 0, 5, -1, -1, 5, -1, -1, 5, 0);
        dueShape(2, -1, 5, -2, -2, 5, -1);
        dueShape(2, -1, 5, -2, -2, 5, -3, -3, 5, -1);
        dueShape(0, 0, 5, -1);
        dueShape(0, -1, 5, -2, -3, 5, -2);
        dueShape(0, 0, 5, -1, -1, 5, -2, -3, 5, 0);
        dueShape(0, 0, 5, -1, -2, 5, -3, -3, 5, 0);
        dueShape(0, 0, 5, -1, -1, 5, 6, 6, 5, 0);
        dueShape(0, 5, 5, 6, 6, 5, 7);
        dueShape(0, 5, 5, 0, 0, 5, 7);
    }

    private void both() {
        b.sentence("3 both");
        dueShape(3, -1, 5, -1, -1, 6, 7);
        dueShape(3, -4, 5, -4, -4, 6, -4);
        dueShape(3, -1, 5, -1, -1, 6, -1, -1, 6, -2);
        dueShape(3, -1, -1, -1, -1, -1, -1, -1, -1, -1);
    }

    private void neither() {
        b.sentence("0 neither");
        dueShape(0);
        dueShape(0, 1, 2, 3);
        dueShape(0, -1, -1, -1);
        dueShape(0, 1, 2, 3, 1, 2, 3, 1, 2, 3);
        dueShape(0, -1, 2, -2, -3, 2, -4);
        b.test("after forget", x -> {
            addAll(x, -1, 5, -1, -1, 5, -1);
            b.due("shape()", x.shape(), 3);
            x.forget();
            b.due("shape()", x.shape(), 0);
            x.addPattern(-1, 5, -1);
            b.due("shape()", x.shape(), 0);
        });
    }

    private void dueJoined(Used x, int... want) {
        for (int place = 0; place < want.length; place++) {
            b.due("joined(" + place + ")", x.joined(place), want[place]);
        }
    }

    /** The predicates 50 to 53 with 0 to 3 triples. */
    private static void buildSteps(Used x) {
        x.state(50, 51, 52);
        x.state(51, 52, 50);
        x.state(52, 52, 53);
        x.state(50, 53, 51);
        x.state(52, 53, 53);
        x.state(53, 53, 51);
    }

    private void joinedFirst() {
        b.plain("Returns a pattern of the join order");
        b.sentence("First comes the pattern with the fewest matches");
        b.test("the only one, without and with matches", x -> {
            x.addPattern(-1, 50, -2);
            dueJoined(x, 0);
            buildSteps(x);
            x.forget();
            x.addPattern(-1, 53, -2);
            dueJoined(x, 0);
        });
        b.test("the first, the second or the third of three", x -> {
            buildSteps(x);
            addAll(x, -1, 51, -2, -1, 52, -2, -1, 53, -2);
            dueJoined(x, 0, 1, 2);
            x.forget();
            addAll(x, -1, 52, -2, -1, 51, -2, -1, 53, -2);
            dueJoined(x, 1, 0, 2);
            x.forget();
            addAll(x, -1, 53, -2, -1, 52, -2, -1, 51, -2);
            dueJoined(x, 2, 1, 0);
        });
        b.test("one without matches ahead of one with one", x -> {
            buildSteps(x);
            addAll(x, -1, 51, -2, -1, 50, -2);
            dueJoined(x, 1, 0);
        });
        b.test("with 59 of 60 ahead of 60 of 60", x -> {
            Used y = World.SIXTY.make();
            y.takeBack(14, 3, 99);
            y.state(14, 3, 0);
            addAll(y, -1, -2, -3, -1, -2, 99);
            b.due("matches(0)", y.matches(0), 60);
            b.due("matches(1)", y.matches(1), 59);
            dueJoined(y, 1, 0);
        });
    }

    private void joinedThen() {
        b.sentence("Then comes, again and again, of the patterns left, if some of them share a variable with one that"
                + " came already, of these, otherwise of all, the one with the fewest matches");
        b.test("one that shares ahead of one with fewer", x -> {
            buildSteps(x);
            addAll(x, -3, 52, -4, -1, 53, -2, -2, 51, 52);
            dueJoined(x, 2, 1, 0);
        });
        b.test("of two that share the one with fewer", x -> {
            buildSteps(x);
            addAll(x, -1, 53, -2, -2, 51, 52, -4, 52, -2);
            dueJoined(x, 1, 2, 0);
        });
        b.test("of two that do not share the one with fewer", x -> {
            buildSteps(x);
            addAll(x, -1, 53, -2, -3, 51, 52, -1, 52, -2);
            dueJoined(x, 1, 2, 0);
        });
        b.test("the last one comes, whether it shares or not", x -> {
            buildSteps(x);
            addAll(x, -4, 50, -4, -1, 51, -2, -2, 53, -1);
            dueJoined(x, 0, 1, 2);
            x.forget();
            addAll(x, -1, 51, -2, -2, 53, -1, -4, 52, -4);
            dueJoined(x, 2, 0, 1);
            x.forget();
            addAll(x, -1, 51, -2, -2, 53, -1, -4, 53, 51);
            dueJoined(x, 0, 1, 2);
        });
        b.test("patterns without variables share none", x -> {
            buildSteps(x);
            addAll(x, -1, 53, -2, 50, 51, 52, 50, 51, 52);
            dueJoined(x, 1, 2, 0);
            x.forget();
            addAll(x, 50, 53, 51, -1, 51, -2, -2, 53, -3);
            dueJoined(x, 0, 1, 2);
        });
        b.test("each of the four variables can be the one that is shared", x -> {
            buildSteps(x);
            for (int variable = -1; variable >= -4; variable--) {
                int other = variable == -1 ? -2 : -1;
                addAll(x, variable, 51, 52, other, 52, 53, variable, 53, 51);
                dueJoined(x, 0, 2, 1);
                x.forget();
            }
        });
        b.sentence("of several always the one with the lowest number");
        b.test("three alike", x -> {
            addAll(x, -1, -2, -3, -1, -2, -3, -1, -2, -3);
            dueJoined(x, 0, 1, 2);
            x.state(1, 1, 1);
            dueJoined(x, 0, 1, 2);
        });
        b.test("two alike at the first place, and at the second", x -> {
            buildSteps(x);
            addAll(x, -1, 53, -2, -2, 52, -1, -1, 52, -2);
            dueJoined(x, 1, 2, 0);
            x.forget();
            addAll(x, -1, 53, -2, -1, 51, -2, -2, 53, -1);
            dueJoined(x, 1, 0, 2);
        });
        b.test("two alike that share nothing", x -> {
            buildSteps(x);
            addAll(x, -1, 53, -1, -2, 53, -2, 50, 51, 52);
            dueJoined(x, 0, 1, 2);
            b.due("matches(0)", x.matches(0), 0);
        });
    }

    private void joinedPlaces() {
        b.sentence("place: 0 for the first one");
        b.allows("joined(0) of 2", 0, x -> x.joined(0), World.SOME);
        b.allows("joined(0) of 3", 1, x -> x.joined(0), World.FULL);
        b.sentence("Throws IndexOutOfBoundsException if there are not so many patterns");
        b.refuses("joined(0) of none", Bounds.OUT, x -> x.joined(0), World.EMPTY);
        b.allows("joined(1) of 2", 1, x -> x.joined(1), World.SOME);
        b.refusesBeyond(0, 1, "joined(%d) of 2", Used::joined, Bounds.OUT, World.SOME);
        b.allows("joined(2) of 3", 0, x -> x.joined(2), World.FULL);
        b.refusesBeyond(0, 2, "joined(%d) of 3", Used::joined, Bounds.OUT, World.FULL);
        b.test("joined(0) after forget", x -> {
            Used y = World.FULL.make();
            y.forget();
            b.dueThrow("joined(0)", y, z -> z.joined(0), Bounds.OUT);
        });
    }
}
