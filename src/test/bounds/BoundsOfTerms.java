/** The sections "What it is" and "Terms": what all calls have in common. */
final class BoundsOfTerms {

    /** Each call of the face once, so that it answers on World.SOME. */
    private static final Bounds.Call[] EACH = {
        x -> x.state(1, 2, 3), x -> x.takeBack(7, 8, 9), Used::triples, x -> x.termAt(2, 3, 1), Used::terms,
        x -> x.numberOf(70), x -> x.termOf(5), x -> x.count(-1, 8, 7), x -> x.orderFor(true, false, true),
        x -> x.seek(1, 9), Used::forget, x -> x.addPattern(1, -4, 3), Used::patterns, x -> x.matches(1),
        Used::variables, Used::shape, x -> x.joined(1), Used::answerByMerging, Used::answerByVariables,
        Used::answerByLoops, Used::answers, x -> x.answer(1, 2), x -> x.termsFor(1)};

    private final Bounds b;

    private BoundsOfTerms(Bounds b) {
        this.b = b;
    }

    static void addTo(Bounds b) {
        BoundsOfTerms part = new BoundsOfTerms(b);
        b.section("What it is");
        part.whatItIs();
        b.section("Terms");
        part.terms();
        part.dictionaryGives();
        part.dictionaryHolds();
        part.storeHolds();
        part.orders();
        part.queryHolds();
        part.variables();
        part.matching();
        part.answers();
        part.answersSorted();
        part.answersWithoutVariables();
        part.whenACallThrows();
        part.severalExceptions();
        part.plainSentences();
    }

    private void plainSentences() {
        b.plain("Callers state triples and take them back, build a query, and ask for its answers");
        b.plain("Ahead of the calls state, takeBack, triples, termAt, terms, numberOf, termOf the interface says:"
                + " ---- triples");
        b.plain("Ahead of the calls count, orderFor, seek the interface says: ---- looking up");
        b.plain("Ahead of the calls forget, addPattern, patterns, matches, variables, shape, joined the interface says:"
                + " ---- the query");
        b.plain("Ahead of the calls answerByMerging, answerByVariables, answerByLoops, answers, answer, termsFor the"
                + " interface says: ---- answers");
    }

    private void whatItIs() {
        b.plain("A triple store: statements of a subject, a predicate and an object, kept in three sorted orders");
        b.plain("terms get numbers by a dictionary");
        b.plain("queries of a few patterns with variables are answered by merge joins, variable by variable, or by"
                + " nested loops");
        b.plain("what later calls answer is free");
        b.sentence("An object is used for at most 512 calls after it has been made");
        b.test("each call answers as the 512th what it answers before", x -> {
            for (int which = 0; which < EACH.length; which++) {
                Used late = allButOneUsed();
                b.due("call " + which + " of the face as the 512th", EACH[which].ask(late),
                        EACH[which].ask(World.SOME.make()));
                b.due("calls left", late.left(), 0);
            }
        });
        b.test("a call is refused as the 512th as it is before", x -> {
            b.dueThrow("state(100, 0, 0)", allButOneUsed(), y -> y.state(100, 0, 0), Bounds.BAD);
            b.dueThrow("seek(0, 99)", allButOneUsed(), y -> y.seek(0, 99), Bounds.NOT_NOW);
            b.dueThrow("answer(2, 0)", allButOneUsed(), y -> y.answer(2, 0), Bounds.OUT);
        });
        b.test("calls with 2000 answers up to the 512th", x -> {
            Used full = World.FULL.make();
            while (full.left() > 0) {
                b.due("2000 answers with " + full.left() + " calls left", full.answerBy(full.left() % 3), 2000);
            }
        });
        b.test("256 times a triple is stated and taken back", x -> {
            for (int k = 0; k < 256; k++) {
                b.due("state " + k, x.state(k % 40, k / 40, 0), 1);
                b.due("takeBack " + k, x.takeBack(k % 40, k / 40, 0), 1);
            }
        });
    }

    private static Used allButOneUsed() {
        Used x = World.SOME.make();
        while (x.left() > 1) {
            x.triples();
        }
        return x;
    }

    private void terms() {
        b.sentence("Terms are 0 to 99");
        b.test("each of them can stand in every place", x -> {
            for (int term = 0; term < 100; term++) {
                dueTermTaken(new Used(), term);
            }
        });
        for (int term : new int[] {-1, 100}) {
            b.refuses("state of " + term, Bounds.BAD, x -> x.state(term, term, term), World.ALL);
            b.refuses("takeBack of " + term, Bounds.BAD, x -> x.takeBack(term, term, term), World.ALL);
            b.refuses("numberOf(" + term + ")", Bounds.BAD, x -> x.numberOf(term), World.ALL);
            b.refuses("seek(0, " + term + ")", Bounds.BAD, x -> x.seek(0, term), World.ALL);
        }
        b.refuses("count of 100", Bounds.BAD, x -> x.count(100, 100, 100), World.ALL);
        b.refuses("addPattern of 100", Bounds.BAD, x -> x.addPattern(100, 100, 100), World.ALL);
    }

    private void dueTermTaken(Used x, int term) {
        b.due("state of " + term, x.state(term, term, term), 1);
        b.due("numberOf(" + term + ")", x.numberOf(term), 0);
        b.due("termOf(0)", x.termOf(0), term);
        for (int part = 0; part < 3; part++) {
            b.due("termAt(" + part + ", 0, " + part + ")", x.termAt(part, 0, part), term);
        }
        b.due("count of " + term, x.count(term, term, term), 1);
        b.due("seek(0, " + term + ")", x.seek(0, term), 0);
        b.due("addPattern of " + term, x.addPattern(term, -1, term), 0);
        b.due("answerByMerging()", x.answerByMerging(), 1);
        b.due("answer(0, 0)", x.answer(0, 0), term);
        b.due("takeBack of " + term, x.takeBack(term, term, term), 1);
    }

    /** The dictionary has these terms alone, with the numbers from 0 on. */
    private void dueDictionary(Used x, int... terms) {
        for (int number = 0; number < terms.length; number++) {
            b.due("numberOf(" + terms[number] + ")", x.numberOf(terms[number]), number);
            b.due("termOf(" + number + ")", x.termOf(number), terms[number]);
        }
        b.due("terms()", x.terms(), terms.length);
    }

    private void dictionaryGives() {
        b.sentence("The dictionary gives a term its number when the term first comes in a triple that is stated, from 0"
                + " on, to the subject first, then to the predicate, then to the object");
        b.test("the first triple's terms get 0, 1 and 2", x -> {
            x.state(99, 50, 0);
            dueDictionary(x, 99, 50, 0);
        });
        b.test("a term that stands twice or thrice in a triple gets one number", x -> {
            x.state(5, 5, 4);
            x.state(3, 2, 3);
            x.state(1, 0, 0);
            x.state(9, 9, 9);
            dueDictionary(x, 5, 4, 3, 2, 1, 0, 9);
        });
        b.test("terms that have a number get no other", x -> {
            x.state(1, 2, 3);
            x.state(3, 4, 1);
            x.state(2, 1, 5);
            x.state(6, 3, 2);
            x.state(1, 2, 3);
            dueDictionary(x, 1, 2, 3, 4, 5, 6);
        });
        b.test("the last number is 39", x -> {
            World.buildTerms(x, 37);
            x.state(99, 98, 97);
            b.due("numberOf(99)", x.numberOf(99), 37);
            b.due("numberOf(98)", x.numberOf(98), 38);
            b.due("numberOf(97)", x.numberOf(97), 39);
            b.due("termOf(39)", x.termOf(39), 97);
        });
        b.test("a triple that is not stated gives none", x -> {
            x.state(1, 2, 3);
            x.takeBack(4, 5, 6);
            x.count(4, 5, 6);
            x.numberOf(4);
            x.addPattern(4, 5, 6);
            x.matches(0);
            x.answerByLoops();
            dueDictionary(x, 1, 2, 3);
        });
        b.test("a triple that is refused gives none", x -> {
            x.state(1, 2, 3);
            b.dueThrow("state(4, 5, 100)", x, y -> y.state(4, 5, 100), Bounds.BAD);
            dueDictionary(x, 1, 2, 3);
            x.state(5, 4, 1);
            dueDictionary(x, 1, 2, 3, 5, 4);
        });
    }

    private void dictionaryHolds() {
        b.sentence("it has at most 40 terms, and forgets none");
        b.test("it has 40 terms", x -> {
            World.buildTerms(x, 40);
            b.due("terms()", x.terms(), 40);
            for (int term = 0; term < 40; term++) {
                b.due("numberOf(" + term + ")", x.numberOf(term), term);
            }
            b.due("a triple of terms that it has", x.state(39, 0, 38), 1);
        });
        b.refuses("state(40, 0, 0), with the 41st term", Bounds.NOT_NOW, x -> x.state(40, 0, 0), World.FORTY);
        b.refuses("state(0, 99, 0), with the 41st term", Bounds.NOT_NOW, x -> x.state(0, 99, 0), World.FORTY);
        b.refuses("state(0, 0, 40), with the 41st term", Bounds.NOT_NOW, x -> x.state(0, 0, 40), World.FORTY);
        World bare = new World("an object with 40 terms and no triples", x -> {
            World.buildTerms(x, 40);
            for (int term = 0; term < 40; term++) {
                x.takeBack(term, term, term);
            }
        });
        b.test("it has them all when no triple is left", x -> {
            Used y = bare.make();
            b.due("triples()", y.triples(), 0);
            b.due("terms()", y.terms(), 40);
            for (int term = 0; term < 40; term++) {
                b.due("numberOf(" + term + ")", y.numberOf(term), term);
                b.due("termOf(" + term + ")", y.termOf(term), term);
            }
            b.due("a triple of terms that it has", y.state(20, 0, 39), 1);
        });
        b.refuses("state(40, 40, 40), when no triple is left", Bounds.NOT_NOW, x -> x.state(40, 40, 40), bare);
        b.test("a triple taken back and stated again has its numbers", x -> {
            x.state(9, 8, 7);
            x.state(6, 5, 4);
            x.takeBack(9, 8, 7);
            x.state(4, 3, 9);
            x.state(7, 8, 9);
            dueDictionary(x, 9, 8, 7, 6, 5, 4, 3);
        });
    }

    private void storeHolds() {
        b.sentence("The store has at most 60 triples, no two alike");
        b.allows("the 60th triple", 1, x -> {
            x.takeBack(14, 3, 99);
            return x.state(14, 3, 99);
        }, World.SIXTY);
        b.refuses("state(15, 0, 99), the 61st triple", Bounds.NOT_NOW, x -> x.state(15, 0, 99), World.SIXTY);
        b.refuses("state(99, 99, 99), the 61st triple", Bounds.NOT_NOW, x -> x.state(99, 99, 99), World.SIXTY);
        b.test("a triple that is in a full store is not stated twice", x -> {
            Used y = World.SIXTY.make();
            b.due("the first again", y.state(0, 0, 99), 0);
            b.due("the last again", y.state(14, 3, 99), 0);
            b.due("triples()", y.triples(), 60);
            b.due("count of the first", y.count(0, 0, 99), 1);
            b.due("count of the last", y.count(14, 3, 99), 1);
        });
        b.test("a triple that is alone in the store is not stated twice", x -> {
            x.state(0, 99, 0);
            b.due("the same again", x.state(0, 99, 0), 0);
            b.due("triples()", x.triples(), 1);
            b.due("takeBack", x.takeBack(0, 99, 0), 1);
            b.due("triples()", x.triples(), 0);
        });
        b.test("triples of the same terms in another sequence are not alike", x -> {
            int[][] triples = {{1, 2, 3}, {1, 3, 2}, {2, 1, 3}, {2, 3, 1}, {3, 1, 2}, {3, 2, 1}};
            for (int[] t : triples) {
                b.due("state", x.state(t[0], t[1], t[2]), 1);
            }
            b.due("triples()", x.triples(), 6);
        });
        b.test("when one of 60 is taken back one more is taken", x -> {
            Used y = World.SIXTY.make();
            y.takeBack(7, 0, 99);
            b.due("another", y.state(99, 99, 99), 1);
            b.due("triples()", y.triples(), 60);
            b.dueThrow("one more", y, z -> z.state(7, 0, 99), Bounds.NOT_NOW);
        });
    }

    private void orders() {
        b.sentence("The orders are 0: by subject, then predicate, then object");
        orderTests(0);
        b.sentence("1: by predicate, then object, then subject");
        orderTests(1);
        b.sentence("2: by object, then subject, then predicate");
        orderTests(2);
        b.sentence("always by the numbers of the terms, not by the terms");
        b.test("the greater term, if it came first, stands first in each order", x -> {
            x.state(99, 99, 99);
            x.state(0, 0, 0);
            for (int order = 0; order < 3; order++) {
                b.due("the first in order " + order, x.termAt(order, 0, 0), 99);
                b.due("the second in order " + order, x.termAt(order, 1, 0), 0);
            }
        });
        b.test("the numbers of terms that no triple has any more count too", x -> {
            x.state(50, 40, 30);
            x.takeBack(50, 40, 30);
            x.state(30, 30, 30);
            x.state(40, 40, 40);
            x.state(50, 50, 50);
            for (int order = 0; order < 3; order++) {
                b.due("the first in order " + order, x.termAt(order, 0, 1), 50);
                b.due("the second in order " + order, x.termAt(order, 1, 1), 40);
                b.due("the third in order " + order, x.termAt(order, 2, 1), 30);
            }
        });
    }

    private void orderTests(int order) {
        b.refuses("termAt(" + order + ", 0, 0)", Bounds.OUT, x -> x.termAt(order, 0, 0), World.EMPTY);
        b.test("one triple stands at the place 0 of the order " + order, x -> {
            x.state(0, 50, 99);
            b.due("its subject", x.termAt(order, 0, 0), 0);
            b.due("its predicate", x.termAt(order, 0, 1), 50);
            b.due("its object", x.termAt(order, 0, 2), 99);
        });
        b.test("the triples of three terms in the order " + order, x -> dueCube(x, order));
        b.test("60 triples in the order " + order, x -> dueSixtySorted(x, order));
    }

    /** All 27 triples of three terms: the place, written to the base 3, has the numbers of the parts as its digits. */
    private void dueCube(Used x, int order) {
        int[] terms = {99, 50, 0};
        x.state(99, 50, 0);
        for (int k = 26; k >= 0; k--) {
            x.state(terms[k / 9], terms[k / 3 % 3], terms[k % 3]);
        }
        for (int place = 0; place < 27; place++) {
            int[] digits = {place / 9, place / 3 % 3, place % 3};
            for (int k = 0; k < 3; k++) {
                int part = (order + k) % 3;
                b.due("termAt(" + order + ", " + place + ", " + part + ")", x.termAt(order, place, part),
                        terms[digits[k]]);
            }
        }
    }

    /** Stated in a mixed sequence; each place is above the one before, so no triple comes twice. */
    private void dueSixtySorted(Used x, int order) {
        int[] terms = {3, 99, 50, 0, 72, 8};
        for (int k = 0; k < 60; k++) {
            int mixed = k * 37 % 60;
            x.state(terms[mixed % 6], terms[mixed / 6 % 5], terms[mixed / 30]);
        }
        int[] numbers = new int[100];
        for (int term : terms) {
            numbers[term] = x.numberOf(term);
        }
        int before = -1;
        for (int place = 0; place < 60; place++) {
            int key = 0;
            for (int k = 0; k < 3; k++) {
                key = key * 64 + numbers[x.termAt(order, place, (order + k) % 3)];
            }
            b.due("the place " + place + " stands behind the one before", key > before ? 1 : 0, 1);
            before = key;
        }
    }

    private void queryHolds() {
        b.sentence("A query has at most 3 patterns, numbered from 0");
        b.test("three patterns have the numbers 0, 1 and 2", x -> {
            for (int pattern = 0; pattern < 3; pattern++) {
                b.due("addPattern", x.addPattern(-1, pattern, -2), pattern);
                b.due("matches", x.matches(pattern), 0);
                b.due("patterns()", x.patterns(), pattern + 1);
            }
        });
        b.test("the same pattern can stand thrice", x -> {
            x.state(1, 1, 1);
            for (int pattern = 0; pattern < 3; pattern++) {
                b.due("addPattern", x.addPattern(-1, -1, -1), pattern);
            }
            b.due("matches(2)", x.matches(2), 1);
        });
        b.refuses("addPattern(1, 2, 3), the fourth", Bounds.NOT_NOW, x -> x.addPattern(1, 2, 3), World.FULL);
        b.refuses("addPattern(-1, 30, -4), the fourth and like the first", Bounds.NOT_NOW,
                x -> x.addPattern(-1, 30, -4), World.FULL);
        b.allows("addPattern after forget", 0, x -> {
            x.forget();
            return x.addPattern(99, 0, -4);
        }, World.ALL);
        b.refuses("matches(0) of a query without patterns", Bounds.OUT, x -> x.matches(0), World.EMPTY);
        b.refuses("joined(0) of a query without patterns", Bounds.OUT, x -> x.joined(0), World.EMPTY);
        b.sentence("In a pattern each of subject, predicate and object is a term or a variable");
        for (int k = 0; k < 8; k++) {
            int bits = k;
            b.test("variables at the parts with the bits " + bits, x -> {
                x.state(0, 99, 50);
                x.addPattern((bits & 1) == 0 ? 0 : -1, (bits & 2) == 0 ? 99 : -2, (bits & 4) == 0 ? 50 : -3);
                b.due("matches(0)", x.matches(0), 1);
                b.due("variables()", x.variables(), bits);
            });
        }
    }

    private void variables() {
        b.sentence("There are the variables 0 to 3");
        for (int k = 0; k < 4; k++) {
            int variable = k;
            b.test("the variable " + variable, x -> {
                x.state(5, 6, 7);
                b.due("addPattern", x.addPattern(5, 6, -1 - variable), 0);
                b.due("variables()", x.variables(), 1 << variable);
                b.due("answerByMerging()", x.answerByMerging(), 1);
                b.due("answer(0, " + variable + ")", x.answer(0, variable), 7);
                b.due("termsFor(" + variable + ")", x.termsFor(variable), 1);
            });
        }
        b.refuses("addPattern(-5, -5, -5)", Bounds.BAD, x -> x.addPattern(-5, -5, -5), World.ALL);
        b.refuses("answer(0, 4)", Bounds.BAD, x -> x.answer(0, 4), World.SOME, World.FULL);
        b.refuses("answer(0, -1)", Bounds.BAD, x -> x.answer(0, -1), World.SOME, World.FULL);
        b.refuses("termsFor(4)", Bounds.BAD, x -> x.termsFor(4), World.ALL);
        b.refuses("termsFor(-1)", Bounds.BAD, x -> x.termsFor(-1), World.ALL);
        b.sentence("in calls a variable is told as -1 less its number (-1 is the variable 0, -4 the variable 3)");
        b.test("-1 to -4 in two patterns", x -> {
            x.state(10, 20, 30);
            x.state(10, 40, 20);
            x.addPattern(-1, -2, -3);
            x.addPattern(-1, -4, -2);
            b.due("answerByVariables()", x.answerByVariables(), 1);
            b.due("answer(0, 0)", x.answer(0, 0), 10);
            b.due("answer(0, 1)", x.answer(0, 1), 20);
            b.due("answer(0, 2)", x.answer(0, 2), 30);
            b.due("answer(0, 3)", x.answer(0, 3), 40);
        });
        b.test("0 is the term 0 and no variable", x -> {
            x.state(0, 0, 0);
            x.state(1, 1, 1);
            x.addPattern(0, 0, 0);
            b.due("variables()", x.variables(), 0);
            b.due("matches(0)", x.matches(0), 1);
        });
    }

    private void dueMatches(Used x, int subject, int predicate, int object, int want) {
        int pattern = x.addPattern(subject, predicate, object);
        b.due("matches of " + subject + " " + predicate + " " + object, x.matches(pattern), want);
        x.forget();
    }

    private void matching() {
        b.sentence("A triple matches a pattern if there are terms for its variables, the same one wherever the same"
                + " variable stands, so that the pattern becomes the triple");
        b.test("in the empty store none does", x -> {
            dueMatches(x, -1, -2, -3, 0);
            dueMatches(x, -4, -4, -4, 0);
            dueMatches(x, 0, 99, 0, 0);
        });
        b.test("in the full store all do", x -> {
            Used y = World.FULL.make();
            y.forget();
            dueMatches(y, -1, -2, -3, 60);
            dueMatches(y, -1, -1, -1, 20);
            dueMatches(y, -2, -2, -3, 20);
            dueMatches(y, -1, 30, 31, 20);
        });
        b.test("the same variable at two parts, and at all three", x -> {
            for (int k = 0; k < 8; k++) {
                x.state(k & 1, k >> 1 & 1, k >> 2 & 1);
            }
            dueMatches(x, -1, -1, -2, 4);
            dueMatches(x, -1, -2, -1, 4);
            dueMatches(x, -2, -1, -1, 4);
            dueMatches(x, -4, -4, -4, 2);
            dueMatches(x, -4, -4, 1, 2);
            dueMatches(x, 0, -1, -1, 2);
            dueMatches(x, -1, 1, -1, 2);
        });
        b.test("unlike variables may have the same term", x -> {
            x.state(5, 5, 5);
            dueMatches(x, -1, -2, -3, 1);
            dueMatches(x, -1, -2, -1, 1);
            dueMatches(x, 5, -2, -3, 1);
        });
        b.test("a pattern without variables is matched by its triple alone", x -> {
            x.state(5, 6, 7);
            x.state(7, 6, 5);
            dueMatches(x, 5, 6, 7, 1);
            dueMatches(x, 5, 6, 5, 0);
            dueMatches(x, 6, 5, 7, 0);
        });
        b.test("a term that the dictionary does not have is in no triple", x -> {
            x.state(5, 6, 7);
            dueMatches(x, 0, -1, -2, 0);
            dueMatches(x, -1, 99, -2, 0);
            dueMatches(x, -1, -2, 8, 0);
        });
    }

    private void answers() {
        b.sentence("An answer is a term for each variable of the query so that each of its patterns becomes a triple of"
                + " the store");
        b.test("the empty store has none", x -> {
            x.addPattern(-1, -2, -3);
            for (int way = 0; way < 3; way++) {
                b.due("answers by the way " + way, x.answerBy(way), 0);
            }
        });
        b.test("a pattern that no triple matches leaves none", x -> {
            Used y = World.FULL.make();
            y.forget();
            y.addPattern(-1, -2, -3);
            y.addPattern(-4, 83, -4);
            for (int way = 0; way < 3; way++) {
                b.due("answers by the way " + way, y.answerBy(way), 0);
            }
        });
        b.test("each triple of the full store is one of three variables", x -> {
            Used y = World.FULL.make();
            y.forget();
            y.addPattern(-2, -3, -4);
            for (int way = 0; way < 3; way++) {
                b.due("answers by the way " + way, y.answerBy(way), 60);
            }
        });
        b.test("unlike variables may have the same term", x -> {
            x.state(5, 5, 5);
            x.addPattern(-1, -2, -3);
            x.addPattern(-4, -1, -2);
            for (int way = 0; way < 3; way++) {
                b.due("answers by the way " + way, x.answerBy(way), 1);
                for (int variable = 0; variable < 4; variable++) {
                    b.due("answer(0, " + variable + ")", x.answer(0, variable), 5);
                }
            }
        });
    }

    private void answersSorted() {
        b.sentence("Answers are sorted by the number of the term for the variable with the lowest number, then by that"
                + " of the next one, and so on");
        for (int k = 0; k < 3; k++) {
            int way = k;
            b.test("three terms for each of four variables, by the way " + way, x -> {
                int[] terms = {70, 0, 99};
                x.state(70, 0, 99);
                x.takeBack(70, 0, 99);
                for (int t = 8; t >= 0; t--) {
                    x.state(terms[t / 3], 50, terms[t % 3]);
                }
                x.addPattern(-4, 50, -2);
                x.addPattern(-3, 50, -1);
                b.due("answers", x.answerBy(way), 81);
                for (int place = 0; place < 81; place++) {
                    b.due("answer(" + place + ", 0)", x.answer(place, 0), terms[place / 27]);
                    b.due("answer(" + place + ", 1)", x.answer(place, 1), terms[place / 9 % 3]);
                    b.due("answer(" + place + ", 2)", x.answer(place, 2), terms[place / 3 % 3]);
                    b.due("answer(" + place + ", 3)", x.answer(place, 3), terms[place % 3]);
                }
            });
            b.test("by the variable 3 alone, and by 40 numbers, by the way " + way, x -> {
                for (int term = 0; term < 40; term++) {
                    x.state(99 - term, 99, 99);
                }
                x.addPattern(-4, 99, 99);
                b.due("answers", x.answerBy(way), 40);
                for (int place = 0; place < 40; place++) {
                    b.due("answer(" + place + ", 3)", x.answer(place, 3), 99 - place);
                }
            });
        }
    }

    private void answersWithoutVariables() {
        b.sentence("A query whose patterns have no variables has one answer, without terms, if all its patterns are"
                + " triples of the store, otherwise none");
        for (int k = 0; k < 3; k++) {
            int way = k;
            b.test("one, two and three triples of the store, by the way " + way, x -> {
                Used y = World.FULL.make();
                y.forget();
                int[][] triples = {{0, 30, 31}, {9, 33, 31}, {99, 99, 99}};
                for (int[] t : triples) {
                    y.addPattern(t[0], t[1], t[2]);
                    b.due("answers", y.answerBy(way), 1);
                    dueWithoutTerms(y);
                }
            });
            b.test("the same triple thrice, by the way " + way, x -> {
                x.state(0, 0, 0);
                for (int pattern = 0; pattern < 3; pattern++) {
                    x.addPattern(0, 0, 0);
                }
                b.due("answers", x.answerBy(way), 1);
                dueWithoutTerms(x);
            });
            b.test("one of three is not in the store, by the way " + way, x -> {
                for (int lacking = 0; lacking < 3; lacking++) {
                    Used y = World.FULL.make();
                    y.forget();
                    for (int pattern = 0; pattern < 3; pattern++) {
                        y.addPattern(0, pattern == lacking ? 31 : 30, 31);
                    }
                    b.due("answers without the pattern " + lacking, y.answerBy(way), 0);
                    b.due("answers()", y.answers(), 0);
                    b.dueThrow("answer(0, 0)", y, z -> z.answer(0, 0), Bounds.OUT);
                }
            });
            b.test("the store is empty, by the way " + way, x -> {
                x.addPattern(0, 0, 0);
                b.due("answers", x.answerBy(way), 0);
                x.state(0, 0, 0);
                x.takeBack(0, 0, 0);
                b.due("answers after takeBack", x.answerBy(way), 0);
            });
        }
    }

    private void dueWithoutTerms(Used x) {
        b.due("answers()", x.answers(), 1);
        for (int v = 0; v < 4; v++) {
            int variable = v;
            b.dueThrow("answer(0, " + variable + ")", x, y -> y.answer(0, variable), Bounds.BAD);
            b.due("termsFor(" + variable + ")", x.termsFor(variable), 0);
        }
        b.dueThrow("answer(1, 0)", x, y -> y.answer(1, 0), Bounds.OUT);
    }

    private void whenACallThrows() {
        b.sentence("When a call throws, nothing has changed");
        b.refuses("state(1, 2, 100)", Bounds.BAD, x -> x.state(1, 2, 100), World.ALL);
        b.refuses("state(99, 99, 0)", Bounds.NOT_NOW, x -> x.state(99, 99, 0), World.FULL, World.SIXTY, World.FORTY);
        b.refuses("takeBack(7, 8, 100)", Bounds.BAD, x -> x.takeBack(7, 8, 100), World.ALL);
        b.refuses("termAt(3, 0, 0)", Bounds.BAD, x -> x.termAt(3, 0, 0), World.ALL);
        b.refuses("termAt(0, 60, 0)", Bounds.OUT, x -> x.termAt(0, 60, 0), World.ALL);
        b.refuses("numberOf(100)", Bounds.BAD, x -> x.numberOf(100), World.ALL);
        b.refuses("termOf(40)", Bounds.OUT, x -> x.termOf(40), World.ALL);
        b.refuses("count(7, 8, 100)", Bounds.BAD, x -> x.count(7, 8, 100), World.ALL);
        b.refuses("seek(3, 7)", Bounds.BAD, x -> x.seek(3, 7), World.ALL);
        b.refuses("seek(0, 83)", Bounds.NOT_NOW, x -> x.seek(0, 83), World.ALL);
        b.refuses("addPattern(1, 2, -5)", Bounds.BAD, x -> x.addPattern(1, 2, -5), World.ALL);
        b.refuses("addPattern(-1, -2, -3)", Bounds.NOT_NOW, x -> x.addPattern(-1, -2, -3), World.FULL);
        b.refuses("matches(3)", Bounds.OUT, x -> x.matches(3), World.ALL);
        b.refuses("joined(3)", Bounds.OUT, x -> x.joined(3), World.ALL);
        for (int k = 0; k < 3; k++) {
            int way = k;
            b.refuses("an answer of no patterns, by the way " + way, Bounds.NOT_NOW, x -> x.answerBy(way), World.EMPTY);
            b.refuses("2001 answers, by the way " + way, Bounds.NOT_NOW, x -> x.answerBy(way),
                    BoundsOfAnswers.ONE_TOO_MANY);
        }
        b.refuses("answer(2000, 0)", Bounds.OUT, x -> x.answer(2000, 0), World.ALL);
        b.refuses("answer(0, 4)", Bounds.BAD, x -> x.answer(0, 4), World.SOME, World.FULL);
        b.refuses("termsFor(4)", Bounds.BAD, x -> x.termsFor(4), World.ALL);
        b.refuses("the last of many refused calls", Bounds.BAD, this::manyRefused, World.SOME, World.FULL);
    }

    private long manyRefused(Used x) {
        Bounds.Call[] refused = {y -> y.state(100, 1, 2), y -> y.takeBack(7, -1, 9), y -> y.termAt(0, 60, 0),
            y -> y.termOf(40), y -> y.count(-2, 0, 0), y -> y.seek(0, 83), y -> y.addPattern(-5, 0, 0),
            y -> y.matches(3), y -> y.joined(3), y -> y.answer(2000, 0)};
        for (Bounds.Call call : refused) {
            boolean hasThrown = false;
            try {
                call.ask(x);
            } catch (RuntimeException e) {
                hasThrown = true;
            }
            b.due("a call that is refused has thrown", hasThrown ? 1 : 0, 1);
        }
        return x.termsFor(4);
    }

    private void severalExceptions() {
        b.sentence("of several exceptions it is the first one of the throws clause");
        b.refuses("state(96, 97, 100), out of range and too much", Bounds.BAD, x -> x.state(96, 97, 100), World.FULL,
                World.SIXTY, World.FORTY);
        b.refuses("termAt(3, 60, 0), the order and the place", Bounds.BAD, x -> x.termAt(3, 60, 0), World.ALL);
        b.refuses("termAt(0, -1, 3), the place and the part", Bounds.BAD, x -> x.termAt(0, -1, 3), World.ALL);
        b.refuses("seek(3, 83), the order and a term not in the dictionary", Bounds.BAD, x -> x.seek(3, 83), World.ALL);
        b.refuses("seek(0, 100), out of range and not in the dictionary", Bounds.BAD, x -> x.seek(0, 100), World.ALL);
        b.refuses("addPattern(-5, 0, 0), out of range and the fourth", Bounds.BAD, x -> x.addPattern(-5, 0, 0),
                World.FULL);
        b.refuses("answer(2000, 4), the place and the variable", Bounds.OUT, x -> x.answer(2000, 4), World.ALL);
        b.refuses("answer(-1, -1), the place and the variable", Bounds.OUT, x -> x.answer(-1, -1), World.ALL);
        b.refuses("answer(2, 3), the place and a variable that was none of the query", Bounds.OUT, x -> x.answer(2, 3),
                World.EMPTY, World.SOME);
    }
}
