import java.util.ArrayList;
import java.util.List;

/** A state that an object can be in, told by the calls that lead there; each test makes it anew. */
final class World {

    interface Build {
        void on(Used x);
    }

    static final World EMPTY = new World("a new object", x -> { });

    /** 4 triples, 6 terms of which 3 are in no triple, 2 patterns, 2 answers. */
    static final World SOME = new World("an object with some triples, patterns and answers", World::buildSome);

    /** 60 triples, 40 terms, 3 patterns, 2000 answers. */
    static final World FULL = new World("a full object", World::buildFull);

    static final World[] ALL = {EMPTY, SOME, FULL};

    /** 60 triples, but 16 terms: 0 to 14 and 99. */
    static final World SIXTY = new World("an object with 60 triples", World::buildSixty);

    /** 40 terms, 0 to 39, but 40 triples. */
    static final World FORTY = new World("an object with 40 terms", x -> buildTerms(x, 40));

    final String name;
    private final Build build;
    private List<String> seen = null;

    World(String name, Build build) {
        this.name = name;
        this.build = build;
    }

    Used make() {
        Used x = new Used();
        build.on(x);
        return x;
    }

    /** What an object shows that nothing else has been asked of. */
    List<String> seen() {
        if (seen == null) {
            seen = new ArrayList<>();
            for (List<Bounds.Call> group : Looks.GROUPS) {
                seen.add(Looks.at(make(), group));
            }
        }
        return seen;
    }

    private static void buildSome(Used x) {
        x.state(7, 8, 9);
        x.state(9, 8, 7);
        x.state(7, 7, 7);
        x.state(8, 9, 7);
        x.state(50, 60, 70);
        x.takeBack(50, 60, 70);
        x.addPattern(-1, 8, -2);
        x.addPattern(-2, -3, -1);
        x.answerByLoops();
    }

    private static void buildFull(Used x) {
        buildStar(x, 20, 10, 10);
        for (int term = 84; term < 100; term++) {
            x.state(term, term, term);
        }
        for (int term = 0; term < 4; term++) {
            x.state(term, term, term);
        }
        askStar(x);
        x.answerByMerging();
    }

    private static void buildSixty(Used x) {
        for (int k = 0; k < 60; k++) {
            x.state(k / 4, k % 4, 99);
        }
    }

    /** So many terms, from 0 on, each with its own number, and as many triples. */
    static void buildTerms(Used x, int howMany) {
        for (int term = 0; term < howMany; term++) {
            x.state(term, term, term);
        }
    }

    /** Three predicates, 30, 32 and 33, with some subjects each and the object 31: askStar has a * b * c answers. */
    static void buildStar(Used x, int a, int b, int c) {
        for (int k = 0; k < a; k++) {
            x.state(k, 30, 31);
        }
        for (int k = 0; k < b; k++) {
            x.state(k, 32, 31);
        }
        for (int k = 0; k < c; k++) {
            x.state(k, 33, 31);
        }
    }

    static void askStar(Used x) {
        x.addPattern(-1, 30, -4);
        x.addPattern(-2, 32, -4);
        x.addPattern(-3, 33, -4);
    }
}
