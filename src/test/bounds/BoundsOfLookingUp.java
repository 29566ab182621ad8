/** The promises 9 to 11: looking up. */
final class BoundsOfLookingUp {

    private final Bounds b;

    private BoundsOfLookingUp(Bounds b) {
        this.b = b;
    }

    static void addTo(Bounds b) {
        BoundsOfLookingUp part = new BoundsOfLookingUp(b);
        b.section("Promise 9: count");
        part.countReturns();
        part.countParts();
        part.countThrows();
        b.section("Promise 10: orderFor");
        part.orderForReturns();
        part.orderForParts();
        b.section("Promise 11: seek");
        part.seekReturns();
        part.seekWithoutOne();
        part.seekParts();
        part.seekThrows();
    }

    private void countReturns() {
        b.sentence("Returns how many triples have some terms");
        b.test("none in the empty store, whatever is told", x -> {
            for (int bits = 0; bits < 8; bits++) {
                b.due("count with the bits " + bits, count(x, bits, 0, 0, 0), 0);
            }
        });
        b.test("the only triple, whatever is told", x -> {
            x.state(99, 0, 50);
            for (int bits = 0; bits < 8; bits++) {
                b.due("count with the bits " + bits, count(x, bits, 99, 0, 50), 1);
                b.due("count of others with the bits " + bits, count(x, bits, 50, 99, 0), bits == 0 ? 1 : 0);
                b.due("count of new terms with the bits " + bits, count(x, bits, 1, 2, 3), bits == 0 ? 1 : 0);
            }
        });
        b.test("60 of 60 triples", x -> {
            Used y = World.SIXTY.make();
            b.due("count(-1, -1, -1)", y.count(-1, -1, -1), 60);
            b.due("count(-1, -1, 99)", y.count(-1, -1, 99), 60);
            b.due("count(0, -1, -1)", y.count(0, -1, -1), 4);
            b.due("count(14, -1, 99)", y.count(14, -1, 99), 4);
            b.due("count(-1, 0, -1)", y.count(-1, 0, -1), 15);
            b.due("count(-1, 3, 99)", y.count(-1, 3, 99), 15);
            b.due("count(14, 3, -1)", y.count(14, 3, -1), 1);
            b.due("count(99, -1, -1)", y.count(99, -1, -1), 0);
            b.due("count(-1, 14, -1)", y.count(-1, 14, -1), 0);
        });
        b.test("terms that are in no triple any more", x -> {
            Used y = World.SOME.make();
            b.due("count(50, -1, -1)", y.count(50, -1, -1), 0);
            b.due("count(50, 60, 70)", y.count(50, 60, 70), 0);
            b.due("count(-1, -1, 70)", y.count(-1, -1, 70), 0);
        });
    }

    private static int count(Used x, int bits, int subject, int predicate, int object) {
        return x.count((bits & 1) == 0 ? -1 : subject, (bits & 2) == 0 ? -1 : predicate, (bits & 4) == 0 ? -1 : object);
    }

    private void countParts() {
        World ends = new World("an object with the terms 0 and 99", x -> {
            x.state(0, 99, 0);
            x.state(99, 0, 99);
            x.state(0, 0, 99);
        });
        b.sentence("subject: 0 to 99, or -1 for any");
        b.allows("count(0, -1, -1)", 2, x -> x.count(0, -1, -1), ends);
        b.allows("count(99, -1, -1)", 1, x -> x.count(99, -1, -1), ends);
        b.allows("count(-1, 0, 99)", 2, x -> x.count(-1, 0, 99), ends);
        b.refusesBeyond(-1, 99, "count(%d, 0, 0)", (x, term) -> x.count(term, 0, 0), Bounds.BAD, World.ALL);
        b.sentence("predicate: 0 to 99, or -1 for any");
        b.allows("count(-1, 0, -1)", 2, x -> x.count(-1, 0, -1), ends);
        b.allows("count(-1, 99, -1)", 1, x -> x.count(-1, 99, -1), ends);
        b.allows("count(0, -1, 0)", 1, x -> x.count(0, -1, 0), ends);
        b.refusesBeyond(-1, 99, "count(0, %d, 0)", (x, term) -> x.count(0, term, 0), Bounds.BAD, World.ALL);
        b.sentence("object: 0 to 99, or -1 for any");
        b.allows("count(-1, -1, 0)", 1, x -> x.count(-1, -1, 0), ends);
        b.allows("count(-1, -1, 99)", 2, x -> x.count(-1, -1, 99), ends);
        b.allows("count(99, 0, -1)", 1, x -> x.count(99, 0, -1), ends);
        b.refusesBeyond(-1, 99, "count(0, 0, %d)", (x, term) -> x.count(0, 0, term), Bounds.BAD, World.ALL);
    }

    private void countThrows() {
        b.sentence("Throws IllegalArgumentException if subject, predicate or object is out of range");
        b.refuses("count(-2, -2, -1)", Bounds.BAD, x -> x.count(-2, -2, -1), World.ALL);
        b.refuses("count(-1, 100, -1)", Bounds.BAD, x -> x.count(-1, 100, -1), World.ALL);
        b.refuses("count(-1, -1, -2)", Bounds.BAD, x -> x.count(-1, -1, -2), World.ALL);
        b.refuses("count(100, -1, 100)", Bounds.BAD, x -> x.count(100, -1, 100), World.ALL);
        b.refuses("count(MIN, MAX, MIN)", Bounds.BAD, x -> x.count(Bounds.MIN, Bounds.MAX, Bounds.MIN), World.ALL);
    }

    private void orderForReturns() {
        b.sentence("Returns the order in which the triples with some terms stand side by side, of several the lowest");
        b.allows("orderFor(false, false, false), none told", 0, x -> x.orderFor(false, false, false), World.ALL);
        b.allows("orderFor(true, true, true), all told", 0, x -> x.orderFor(true, true, true), World.ALL);
        b.allows("orderFor(true, true, false)", 0, x -> x.orderFor(true, true, false), World.ALL);
        b.allows("orderFor(false, true, true)", 1, x -> x.orderFor(false, true, true), World.ALL);
        b.allows("orderFor(true, false, true)", 2, x -> x.orderFor(true, false, true), World.ALL);
        b.test("there they stand side by side", x -> {
            for (int k = 0; k < 27; k++) {
                x.state(k / 9, k / 3 % 3, k % 3);
            }
            for (int bits = 0; bits < 8; bits++) {
                dueSideBySide(x, bits);
            }
        });
    }

    /** The triples with the term 1 in the parts told. */
    private void dueSideBySide(Used x, int bits) {
        int order = x.orderFor((bits & 1) != 0, (bits & 2) != 0, (bits & 4) != 0);
        int first = -1;
        int last = -1;
        for (int place = 0; place < 27; place++) {
            boolean has = true;
            for (int part = 0; part < 3 && has; part++) {
                has = (bits >> part & 1) == 0 || x.termAt(order, place, part) == 1;
            }
            if (has) {
                first = first < 0 ? place : first;
                last = place;
            }
        }
        b.due("the places for the bits " + bits, last - first + 1, count(x, bits, 1, 1, 1));
    }

    private void orderForParts() {
        b.sentence("subject: whether the subject is told");
        b.allows("orderFor(true, false, false)", 0, x -> x.orderFor(true, false, false), World.ALL);
        b.sentence("predicate: whether the predicate is told");
        b.allows("orderFor(false, true, false)", 1, x -> x.orderFor(false, true, false), World.ALL);
        b.sentence("object: whether the object is told");
        b.allows("orderFor(false, false, true)", 2, x -> x.orderFor(false, false, true), World.ALL);
    }

    private void seekReturns() {
        b.sentence("Returns the place, in an order, of the first triple whose term that the order goes by first is a"
                + " term, or has a greater number than that");
        b.test("each term of 60 triples", x -> {
            Used y = World.SIXTY.make();
            for (int subject = 0; subject < 15; subject++) {
                // The term 99 has the number 1, and is no subject: so is its place where the term 1 has the number 2.
                b.due("seek(0, " + subject + ")", y.seek(0, subject), subject * 4);
            }
            b.due("seek(0, 99)", y.seek(0, 99), 4);
            for (int predicate = 0; predicate < 4; predicate++) {
                b.due("seek(1, " + predicate + ")", y.seek(1, predicate), predicate * 15);
            }
            b.due("seek(1, 99)", y.seek(1, 99), 15);
            b.due("seek(2, 99)", y.seek(2, 99), 0);
            b.due("seek(2, 0)", y.seek(2, 0), 0);
        });
        b.test("the first one's term, the last one's, and one between", x -> {
            x.state(9, 8, 7);
            x.state(8, 8, 8);
            x.state(7, 8, 9);
            b.due("seek(0, 9)", x.seek(0, 9), 0);
            b.due("seek(0, 8)", x.seek(0, 8), 1);
            b.due("seek(0, 7)", x.seek(0, 7), 2);
            b.due("seek(2, 9)", x.seek(2, 9), 0);
            b.due("seek(2, 7)", x.seek(2, 7), 2);
            b.due("seek(1, 9), before the only predicate", x.seek(1, 9), 0);
            x.takeBack(8, 8, 8);
            b.due("seek(0, 8), which is no subject any more", x.seek(0, 8), 1);
            b.due("seek(2, 8), which is no object any more", x.seek(2, 8), 1);
        });
        b.test("the number counts, and not the term", x -> {
            x.state(99, 0, 99);
            x.state(0, 0, 0);
            b.due("seek(0, 99)", x.seek(0, 99), 0);
            b.due("seek(0, 0)", x.seek(0, 0), 1);
        });
    }

    private void seekWithoutOne() {
        b.sentence("how many triples there are, if there is none");
        b.test("the empty store", x -> {
            x.state(0, 0, 0);
            x.takeBack(0, 0, 0);
            for (int order = 0; order < 3; order++) {
                b.due("seek(" + order + ", 0)", x.seek(order, 0), 0);
            }
        });
        b.test("one triple", x -> {
            x.state(1, 2, 3);
            b.due("seek(0, 1)", x.seek(0, 1), 0);
            b.due("seek(0, 2)", x.seek(0, 2), 1);
            b.due("seek(0, 3)", x.seek(0, 3), 1);
            b.due("seek(1, 2)", x.seek(1, 2), 0);
            b.due("seek(1, 3)", x.seek(1, 3), 1);
            b.due("seek(2, 3)", x.seek(2, 3), 0);
        });
        b.test("60 triples", x -> {
            Used y = World.SIXTY.make();
            for (int term = 4; term < 15; term++) {
                b.due("seek(1, " + term + ")", y.seek(1, term), 60);
                b.due("seek(2, " + term + ")", y.seek(2, term), 60);
            }
        });
    }

    private void seekParts() {
        b.sentence("order: 0 to 2");
        b.allows("seek(0, 7)", 0, x -> x.seek(0, 7), World.SOME);
        b.allows("seek(2, 9)", 3, x -> x.seek(2, 9), World.SOME);
        b.refusesBeyond(0, 2, "seek(%d, 7)", (x, order) -> x.seek(order, 7), Bounds.BAD, World.ALL);
        b.sentence("term: 0 to 99");
        b.allows("seek(0, 0)", 0, x -> x.seek(0, 0), World.SIXTY);
        b.allows("seek(0, 99)", 59, x -> x.seek(0, 99), World.FULL);
        b.refusesBeyond(0, 99, "seek(1, %d)", (x, term) -> x.seek(1, term), Bounds.BAD, World.ALL);
    }

    private void seekThrows() {
        b.sentence("Throws IllegalArgumentException if order or term is out of range");
        b.refuses("seek(-1, -1)", Bounds.BAD, x -> x.seek(-1, -1), World.ALL);
        b.refuses("seek(3, 100)", Bounds.BAD, x -> x.seek(3, 100), World.ALL);
        b.refuses("seek(3, 83)", Bounds.BAD, x -> x.seek(3, 83), World.ALL);
        b.refuses("seek(MIN, MAX)", Bounds.BAD, x -> x.seek(Bounds.MIN, Bounds.MAX), World.ALL);
        b.sentence("Throws IllegalStateException if the dictionary does not have the term");
        for (int k = 0; k < 3; k++) {
            int order = k;
            b.refuses("seek(" + order + ", 0) of no terms", Bounds.NOT_NOW, x -> x.seek(order, 0), World.EMPTY);
            b.refuses("seek(" + order + ", 99) of no terms", Bounds.NOT_NOW, x -> x.seek(order, 99), World.EMPTY);
            b.refuses("seek(" + order + ", 6) of 6 terms", Bounds.NOT_NOW, x -> x.seek(order, 6), World.SOME);
            b.refuses("seek(" + order + ", 40) of 40 terms", Bounds.NOT_NOW, x -> x.seek(order, 40), World.FORTY);
        }
        b.test("a term that stands in a pattern alone", x -> {
            x.addPattern(5, 5, 5);
            b.dueThrow("seek(0, 5)", x, y -> y.seek(0, 5), Bounds.NOT_NOW);
        });
        b.allows("seek(0, 50), a term of a triple taken back", 4, x -> x.seek(0, 50), World.SOME);
    }
}
