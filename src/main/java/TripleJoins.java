/**
 * A triple store: statements of a subject, a predicate and an object, kept in three sorted orders; terms get numbers
 * by a dictionary; queries of a few patterns with variables are answered in three ways.
 *
 * <p>A number takes six bits. A triple is packed into 18 bits, its subject highest; a row, the numbers that the four
 * variables have, into 24 bits, the variable 0 highest. So one comparison of two packed ints compares by the first
 * part, then by the next one, and so on, and no call needs an object for a triple or an answer.
 */
public final class TripleJoins {

    private static final int TERM_LIMIT = 100;
    private static final int NUMBER_LIMIT = 40;
    private static final int TRIPLE_LIMIT = 60;
    private static final int PATTERN_LIMIT = 3;
    private static final int VARIABLE_LIMIT = 4;
    private static final int ANSWER_LIMIT = 2000;
    private static final int ORDERS = 3;
    private static final int PARTS = 3;

    private static final int NUMBER_BITS = 6;
    private static final int NUMBER_MASK = 63;
    private static final int TRIPLE_BITS = 18;
    private static final int TRIPLE_MASK = 262143;

    /** The dictionary never gives this number, so what is packed with it is in no store. */
    private static final int NO_NUMBER = 63;

    /** No row is negative, so this one can say that there is none. */
    private static final int NO_ROW = -1;

    /** Two patterns make at most 60 * 60 rows; more can only come of the last of three, and are then all answers. */
    private static final int ROW_LIMIT = 3600;

    private final Dictionary dictionary;
    private final Store store;
    private final Query query;
    private final Joins joins;
    private final int[] kept;
    private int keptSize;
    private int keptVariables;

    public TripleJoins() {
        dictionary = new Dictionary();
        store = new Store();
        query = new Query();
        joins = new Joins();
        kept = new int[ANSWER_LIMIT];
        keptSize = 0;
        keptVariables = 0;
    }

    // ---- triples

    public boolean state(int subject, int predicate, int object)
            throws IllegalArgumentException, IllegalStateException {
        if (!isTerm(subject) || !isTerm(predicate) || !isTerm(object)) {
            throw new IllegalArgumentException("a term is 0 to 99");
        }
        if (store.holds(dictionary.pack(subject, predicate, object))) {
            return false;
        }
        if (store.size() >= TRIPLE_LIMIT) {
            throw new IllegalStateException("the store has 60 triples");
        }
        if (dictionary.sizeWith(subject, predicate, object) > NUMBER_LIMIT) {
            throw new IllegalStateException("the dictionary would have more than 40 terms");
        }
        dictionary.learn(subject);
        dictionary.learn(predicate);
        dictionary.learn(object);
        store.insert(dictionary.pack(subject, predicate, object));
        return true;
    }

    public boolean takeBack(int subject, int predicate, int object) throws IllegalArgumentException {
        if (!isTerm(subject) || !isTerm(predicate) || !isTerm(object)) {
            throw new IllegalArgumentException("a term is 0 to 99");
        }
        int triple = dictionary.pack(subject, predicate, object);
        if (!store.holds(triple)) {
            return false;
        }
        store.remove(triple);
        return true;
    }

    public int triples() {
        return store.size();
    }

    public int termAt(int order, int place, int part) throws IllegalArgumentException, IndexOutOfBoundsException {
        if (!isOrder(order)) {
            throw new IllegalArgumentException("an order is 0 to 2");
        }
        if (part < 0 || part >= PARTS) {
            throw new IllegalArgumentException("a part is 0 to 2");
        }
        if (place < 0 || place >= store.size()) {
            throw new IndexOutOfBoundsException("there is no such triple");
        }
        return dictionary.term(partOf(store.triple(order, place), part));
    }

    public int terms() {
        return dictionary.size();
    }

    public int numberOf(int term) throws IllegalArgumentException {
        if (!isTerm(term)) {
            throw new IllegalArgumentException("a term is 0 to 99");
        }
        return dictionary.knows(term) ? dictionary.number(term) : -1;
    }

    public int termOf(int number) throws IndexOutOfBoundsException {
        if (number < 0 || number >= dictionary.size()) {
            throw new IndexOutOfBoundsException("the dictionary has no such number");
        }
        return dictionary.term(number);
    }

    // ---- looking up

    public int count(int subject, int predicate, int object) throws IllegalArgumentException {
        if (!isTermOrAny(subject) || !isTermOrAny(predicate) || !isTermOrAny(object)) {
            throw new IllegalArgumentException("a term is 0 to 99, or -1 for any");
        }
        int mask = maskFor(subject >= 0, predicate >= 0, object >= 0);
        int value = dictionary.pack(subject, predicate, object) & mask;
        int order = orderOf(mask);
        return store.end(order, mask, value) - store.begin(order, value);
    }

    public int orderFor(boolean subject, boolean predicate, boolean object) {
        return orderOf(maskFor(subject, predicate, object));
    }

    public int seek(int order, int term) throws IllegalArgumentException, IllegalStateException {
        if (!isOrder(order)) {
            throw new IllegalArgumentException("an order is 0 to 2");
        }
        if (!isTerm(term)) {
            throw new IllegalArgumentException("a term is 0 to 99");
        }
        if (!dictionary.knows(term)) {
            throw new IllegalStateException("the dictionary does not have the term");
        }
        return store.begin(order, dictionary.number(term) << partShift(order));
    }

    // ---- the query

    public int forget() {
        return query.clear();
    }

    public int addPattern(int subject, int predicate, int object)
            throws IllegalArgumentException, IllegalStateException {
        if (!isTermOrVariable(subject) || !isTermOrVariable(predicate) || !isTermOrVariable(object)) {
            throw new IllegalArgumentException("a term is 0 to 99, a variable -1 to -4");
        }
        if (query.size() >= PATTERN_LIMIT) {
            throw new IllegalStateException("the query has 3 patterns");
        }
        return query.add(subject, predicate, object);
    }

    public int patterns() {
        return query.size();
    }

    public int matches(int pattern) throws IndexOutOfBoundsException {
        if (pattern < 0 || pattern >= query.size()) {
            throw new IndexOutOfBoundsException("there is no such pattern");
        }
        query.look(dictionary, store);
        return query.pattern(pattern).found();
    }

    public int variables() {
        return query.variableBits();
    }

    public int shape() {
        return (query.isStar() ? 1 : 0) + (query.isChain() ? 2 : 0);
    }

    public int joined(int place) throws IndexOutOfBoundsException {
        if (place < 0 || place >= query.size()) {
            throw new IndexOutOfBoundsException("there are not so many patterns");
        }
        query.look(dictionary, store);
        return query.inJoinOrder(place);
    }

    // ---- answers

    public int answerByMerging() throws IllegalStateException {
        beginAnswering();
        joins.merge(query, store);
        return keepAnswers();
    }

    public int answerByVariables() throws IllegalStateException {
        beginAnswering();
        joins.goByVariables(query, store);
        return keepAnswers();
    }

    public int answerByLoops() throws IllegalStateException {
        beginAnswering();
        joins.loop(query, store);
        return keepAnswers();
    }

    public int answers() {
        return keptSize;
    }

    public int answer(int place, int variable) throws IndexOutOfBoundsException, IllegalArgumentException {
        if (place < 0 || place >= keptSize) {
            throw new IndexOutOfBoundsException("there is no such answer");
        }
        if (!isVariable(variable)) {
            throw new IllegalArgumentException("a variable is 0 to 3");
        }
        if (!hasBit(keptVariables, variable)) {
            throw new IllegalArgumentException("the query that was answered did not have the variable");
        }
        return dictionary.term(cellOf(at(kept, place), variable));
    }

    public int termsFor(int variable) throws IllegalArgumentException {
        if (!isVariable(variable)) {
            throw new IllegalArgumentException("a variable is 0 to 3");
        }
        if (!hasBit(keptVariables, variable)) {
            return 0;
        }
        long numbers = 0L;
        for (int place = 0; place < keptSize; place++) {
            numbers |= 1L << cellOf(at(kept, place), variable);
        }
        return Long.bitCount(numbers);
    }

    private void beginAnswering() {
        if (query.size() == 0) {
            throw new IllegalStateException("the query has no patterns");
        }
        query.look(dictionary, store);
    }

    /** The answers kept before stay until it is sure that the new ones are not too many. */
    private int keepAnswers() {
        Table made = joins.made();
        if (made.isOver() || made.size() > ANSWER_LIMIT) {
            throw new IllegalStateException("the query has more than 2000 answers");
        }
        keptVariables = query.variableBits();
        keptSize = made.size();
        made.sort(keptVariables);
        for (int place = 0; place < keptSize; place++) {
            put(kept, place, made.row(place));
        }
        return keptSize;
    }

    // ---- what is in range

    private static boolean isTerm(int term) {
        return term >= 0 && term < TERM_LIMIT;
    }

    private static boolean isTermOrAny(int term) {
        return term >= -1 && term < TERM_LIMIT;
    }

    private static boolean isTermOrVariable(int told) {
        return told >= -VARIABLE_LIMIT && told < TERM_LIMIT;
    }

    private static boolean isVariable(int variable) {
        return variable >= 0 && variable < VARIABLE_LIMIT;
    }

    private static boolean isOrder(int order) {
        return order >= 0 && order < ORDERS;
    }

    // ---- arrays and packed ints

    /** Every array is read here and written in put, so that no index can make the machine throw. */
    private static int at(int[] cells, int index) {
        return cells != null && index >= 0 && index < cells.length ? cells[index] : 0;
    }

    private static void put(int[] cells, int index, int value) {
        if (cells != null && index >= 0 && index < cells.length) {
            cells[index] = value;
        }
    }

    private static boolean hasBit(int bits, int place) {
        return (bits >> place & 1) != 0;
    }

    private static int partShift(int part) {
        return NUMBER_BITS * (PARTS - 1 - part);
    }

    private static int partOf(int triple, int part) {
        return triple >> partShift(part) & NUMBER_MASK;
    }

    private static int cellShift(int variable) {
        return NUMBER_BITS * (VARIABLE_LIMIT - 1 - variable);
    }

    private static int cellOf(int row, int variable) {
        return row >> cellShift(variable) & NUMBER_MASK;
    }

    /** The bits of a row that the cells of some variables take. */
    private static int rowMask(int variables) {
        int mask = 0;
        for (int variable = 0; variable < VARIABLE_LIMIT; variable++) {
            if (hasBit(variables, variable)) {
                mask |= NUMBER_MASK << cellShift(variable);
            }
        }
        return mask;
    }

    /** The bits of a triple that some of its parts take. */
    private static int maskFor(boolean subject, boolean predicate, boolean object) {
        return (subject ? NUMBER_MASK << partShift(0) : 0)
                | (predicate ? NUMBER_MASK << partShift(1) : 0)
                | (object ? NUMBER_MASK << partShift(2) : 0);
    }

    /** The lowest order that goes by the parts under the mask before it goes by any other. */
    private static int orderOf(int mask) {
        boolean subject = partOf(mask, 0) != 0;
        boolean predicate = partOf(mask, 1) != 0;
        boolean object = partOf(mask, 2) != 0;
        if (object && !predicate) {
            return 2;
        }
        return predicate && !subject ? 1 : 0;
    }

    /** Each order begins one part later than the order before and goes round: its keys are triples rolled left. */
    private static int rolled(int triple, int order) {
        int shift = NUMBER_BITS * order;
        return (triple << shift | triple >> TRIPLE_BITS - shift) & TRIPLE_MASK;
    }

    private static int rolledBack(int key, int order) {
        int shift = NUMBER_BITS * order;
        return (key >> shift | key << TRIPLE_BITS - shift) & TRIPLE_MASK;
    }

    /** The numbers of the terms. */
    private static final class Dictionary {

        private final int[] termByNumber = new int[NUMBER_LIMIT];
        /** One more than the number, so that 0, which a new array holds, says that there is none. */
        private final int[] nextNumberByTerm = new int[TERM_LIMIT];
        private int size = 0;

        int size() {
            return size;
        }

        boolean knows(int term) {
            return at(nextNumberByTerm, term) > 0;
        }

        int number(int term) {
            return knows(term) ? at(nextNumberByTerm, term) - 1 : NO_NUMBER;
        }

        int term(int number) {
            return at(termByNumber, number);
        }

        int pack(int subject, int predicate, int object) {
            return number(subject) << partShift(0)
                    | number(predicate) << partShift(1)
                    | number(object) << partShift(2);
        }

        /** How many terms there would be after these three, of which some may be alike. */
        int sizeWith(int subject, int predicate, int object) {
            int with = size;
            if (!knows(subject)) {
                with++;
            }
            if (!knows(predicate) && predicate != subject) {
                with++;
            }
            if (!knows(object) && object != subject && object != predicate) {
                with++;
            }
            return with;
        }

        void learn(int term) {
            if (!knows(term) && size < NUMBER_LIMIT) {
                put(termByNumber, size, term);
                size++;
                put(nextNumberByTerm, term, size);
            }
        }
    }

    /** The keys of all triples in one order, rising. */
    private static final class Sorted {

        private final int[] keys = new int[TRIPLE_LIMIT];
        private int size = 0;

        int size() {
            return size;
        }

        int key(int place) {
            return at(keys, place);
        }

        /** How many keys are lower: the place of the key, or the one that it would have. */
        int placeOf(int key) {
            int place = 0;
            for (int step = 32; step > 0; step >>= 1) {
                int next = place + step;
                if (next <= size && at(keys, next - 1) < key) {
                    place = next;
                }
            }
            return place;
        }

        boolean holds(int key) {
            int place = placeOf(key);
            return place < size && at(keys, place) == key;
        }

        void insert(int key) {
            if (size >= TRIPLE_LIMIT) {
                return;
            }
            int place = placeOf(key);
            for (int to = size; to > place; to--) {
                put(keys, to, at(keys, to - 1));
            }
            put(keys, place, key);
            size++;
        }

        void remove(int key) {
            if (!holds(key)) {
                return;
            }
            size--;
            for (int to = placeOf(key); to < size; to++) {
                put(keys, to, at(keys, to + 1));
            }
        }
    }

    /** All triples, in each of the three orders. */
    private static final class Store {

        private final Sorted bySubject = new Sorted();
        private final Sorted byPredicate = new Sorted();
        private final Sorted byObject = new Sorted();

        private Sorted in(int order) {
            if (order == 1) {
                return byPredicate;
            }
            return order == 2 ? byObject : bySubject;
        }

        int size() {
            return bySubject.size();
        }

        /** In this order a key is the triple as it is. */
        Sorted all() {
            return bySubject;
        }

        boolean holds(int triple) {
            return bySubject.holds(triple);
        }

        void insert(int triple) {
            for (int order = 0; order < ORDERS; order++) {
                in(order).insert(rolled(triple, order));
            }
        }

        void remove(int triple) {
            for (int order = 0; order < ORDERS; order++) {
                in(order).remove(rolled(triple, order));
            }
        }

        int triple(int order, int place) {
            return rolledBack(in(order).key(place), order);
        }

        /** The place of the first triple, in an order, that is not lower than the value. */
        int begin(int order, int value) {
            return in(order).placeOf(rolled(value, order));
        }

        /** The place behind the last triple that is the value under the mask, in the order for the mask. */
        int end(int order, int mask, int value) {
            return in(order).placeOf(rolled(value | TRIPLE_MASK & ~mask, order) + 1);
        }
    }

    /** A pattern of the query; a variable is told as -1 less its number. */
    private static final class Pattern {

        private final int[] told = new int[PARTS];
        private final int[] numbers = new int[PARTS];
        private int variableBits = 0;
        private int found = 0;

        void tell(int subject, int predicate, int object) {
            put(told, 0, subject);
            put(told, 1, predicate);
            put(told, 2, object);
            variableBits = bitOf(subject) | bitOf(predicate) | bitOf(object);
        }

        private int bitOf(int part) {
            return part < 0 ? 1 << -1 - part : 0;
        }

        int part(int part) {
            return at(told, part);
        }

        int variableBits() {
            return variableBits;
        }

        int found() {
            return found;
        }

        /** Numbers and matches change with the store, so they are looked up anew for each call. */
        void look(Dictionary dictionary, Store store) {
            for (int part = 0; part < PARTS; part++) {
                put(numbers, part, at(told, part) < 0 ? 0 : dictionary.number(at(told, part)));
            }
            int mask = maskWith(0);
            int value = valueWith(0, 0);
            int order = orderOf(mask);
            int end = store.end(order, mask, value);
            found = 0;
            for (int place = store.begin(order, value); place < end; place++) {
                if (widen(0, 0, store.triple(order, place)) != NO_ROW) {
                    found++;
                }
            }
        }

        /** The bits of a triple that are fixed when some variables have their numbers. */
        int maskWith(int bound) {
            int mask = 0;
            for (int part = 0; part < PARTS; part++) {
                int here = at(told, part);
                if (here >= 0 || hasBit(bound, -1 - here)) {
                    mask |= NUMBER_MASK << partShift(part);
                }
            }
            return mask;
        }

        /** What a triple has there. */
        int valueWith(int bound, int row) {
            int value = 0;
            for (int part = 0; part < PARTS; part++) {
                int here = at(told, part);
                if (here >= 0) {
                    value |= at(numbers, part) << partShift(part);
                } else if (hasBit(bound, -1 - here)) {
                    value |= cellOf(row, -1 - here) << partShift(part);
                }
            }
            return value;
        }

        /** The row with the numbers that a triple, which fits the mask, gives the variables; or none. */
        int widen(int bound, int row, int triple) {
            int wide = row;
            int have = bound;
            for (int part = 0; part < PARTS; part++) {
                int variable = -1 - at(told, part);
                if (variable >= 0) {
                    int number = partOf(triple, part);
                    if (!hasBit(have, variable)) {
                        wide |= number << cellShift(variable);
                        have |= 1 << variable;
                    } else if (cellOf(wide, variable) != number) {
                        return NO_ROW;
                    }
                }
            }
            return wide;
        }
    }

    /** The patterns that are asked for together. */
    private static final class Query {

        private final Pattern first = new Pattern();
        private final Pattern second = new Pattern();
        private final Pattern third = new Pattern();
        private int size = 0;

        int size() {
            return size;
        }

        Pattern pattern(int index) {
            if (index == 1) {
                return second;
            }
            return index == 2 ? third : first;
        }

        int clear() {
            int before = size;
            size = 0;
            return before;
        }

        int add(int subject, int predicate, int object) {
            int index = size;
            pattern(index).tell(subject, predicate, object);
            size++;
            return index;
        }

        void look(Dictionary dictionary, Store store) {
            for (int index = 0; index < size; index++) {
                pattern(index).look(dictionary, store);
            }
        }

        int variableBits() {
            int bits = 0;
            for (int index = 0; index < size; index++) {
                bits |= pattern(index).variableBits();
            }
            return bits;
        }

        boolean isStar() {
            boolean star = size >= 2 && first.part(0) < 0;
            for (int index = 1; index < size; index++) {
                star = star && pattern(index).part(0) == first.part(0);
            }
            return star;
        }

        boolean isChain() {
            boolean chain = size >= 2;
            for (int index = 1; index < size; index++) {
                int link = pattern(index - 1).part(2);
                chain = chain && link < 0 && link == pattern(index).part(0);
            }
            return chain;
        }

        boolean hasPatternWithoutMatch() {
            for (int index = 0; index < size; index++) {
                if (pattern(index).found() == 0) {
                    return true;
                }
            }
            return false;
        }

        int inJoinOrder(int place) {
            int came = 0;
            int variableBits = 0;
            int index = 0;
            for (int step = 0; step <= place && step < size; step++) {
                index = bestLeft(came, variableBits);
                came |= 1 << index;
                variableBits |= pattern(index).variableBits();
            }
            return index;
        }

        private int bestLeft(int came, int variableBits) {
            int best = -1;
            for (int index = 0; index < size; index++) {
                if (!hasBit(came, index) && (best < 0 || goesAhead(index, best, variableBits))) {
                    best = index;
                }
            }
            return Math.max(best, 0);
        }

        private boolean goesAhead(int index, int other, int variableBits) {
            boolean shares = (pattern(index).variableBits() & variableBits) != 0;
            boolean otherShares = (pattern(other).variableBits() & variableBits) != 0;
            return shares == otherShares ? pattern(index).found() < pattern(other).found() : shares;
        }
    }

    /** Rows, and behind them the rows that a step makes of them and that take their place when it ends. */
    private static final class Table {

        private int[] rows;
        private int[] next;
        private final int[] starts = new int[NUMBER_MASK + 1];
        private int size = 0;
        private int nextSize = 0;
        private boolean over = false;

        Table(int capacity) {
            int length = Math.max(capacity, 0);
            rows = new int[length];
            next = new int[length];
        }

        int size() {
            return size;
        }

        int row(int place) {
            return at(rows, place);
        }

        /** Whether there was a row too many since the table began. */
        boolean isOver() {
            return over;
        }

        void beginEmpty() {
            size = 0;
            nextSize = 0;
            over = false;
        }

        void beginWithNothingBound() {
            beginEmpty();
            add(0);
            turn();
        }

        void add(int row) {
            if (nextSize < next.length) {
                put(next, nextSize, row);
                nextSize++;
            } else {
                over = true;
            }
        }

        void turn() {
            int[] old = rows;
            rows = next;
            next = old;
            size = nextSize;
            nextSize = 0;
        }

        /** Sorting by the last variable first is enough, as rows that are alike there keep their sequence. */
        void sort(int variables) {
            for (int variable = VARIABLE_LIMIT - 1; variable >= 0; variable--) {
                if (hasBit(variables, variable)) {
                    sortByOne(variable);
                }
            }
        }

        private void sortByOne(int variable) {
            for (int number = 0; number <= NUMBER_MASK; number++) {
                put(starts, number, 0);
            }
            for (int place = 0; place < size; place++) {
                int number = cellOf(at(rows, place), variable);
                put(starts, number, at(starts, number) + 1);
            }
            int before = 0;
            for (int number = 0; number <= NUMBER_MASK; number++) {
                int here = at(starts, number);
                put(starts, number, before);
                before += here;
            }
            for (int place = 0; place < size; place++) {
                int number = cellOf(at(rows, place), variable);
                put(next, at(starts, number), at(rows, place));
                put(starts, number, at(starts, number) + 1);
            }
            nextSize = size;
            turn();
        }
    }

    /** The three ways to answer a query; each leaves the answers, in no order yet, in the table made. */
    private static final class Joins {

        private final Table made = new Table(ROW_LIMIT);
        private final Table side = new Table(TRIPLE_LIMIT);

        Table made() {
            return made;
        }

        void merge(Query query, Store store) {
            made.beginWithNothingBound();
            int bound = 0;
            for (int place = 0; place < query.size(); place++) {
                Pattern pattern = query.pattern(query.inJoinOrder(place));
                int shared = bound & pattern.variableBits();
                gather(pattern, store, 0, 0);
                side.sort(shared);
                made.sort(shared);
                mergeSide(rowMask(shared));
                bound |= pattern.variableBits();
            }
        }

        /** A variable without a number is 0 in a row, so "or" joins two rows that are alike under the mask. */
        private void mergeSide(int mask) {
            int from = 0;
            for (int place = 0; place < made.size() && !made.isOver(); place++) {
                int row = made.row(place);
                int key = row & mask;
                while (from < side.size() && (side.row(from) & mask) < key) {
                    from++;
                }
                for (int with = from; with < side.size() && (side.row(with) & mask) == key; with++) {
                    made.add(row | side.row(with));
                }
            }
            made.turn();
        }

        /** Puts the rows to the side that the triples matching a pattern make of a row. */
        private void gather(Pattern pattern, Store store, int bound, int row) {
            int mask = pattern.maskWith(bound);
            int value = pattern.valueWith(bound, row);
            int order = orderOf(mask);
            int end = store.end(order, mask, value);
            side.beginEmpty();
            for (int place = store.begin(order, value); place < end; place++) {
                int wide = pattern.widen(bound, row, store.triple(order, place));
                if (wide != NO_ROW) {
                    side.add(wide);
                }
            }
            side.turn();
        }

        /** The variables go by the join order: so two patterns' variables never take more rows than two patterns. */
        void goByVariables(Query query, Store store) {
            made.beginWithNothingBound();
            // Patterns without variables get no other look than this.
            if (query.hasPatternWithoutMatch()) {
                made.beginEmpty();
            }
            int bound = 0;
            for (int place = 0; place < query.size(); place++) {
                int bits = query.pattern(query.inJoinOrder(place)).variableBits();
                for (int variable = 0; variable < VARIABLE_LIMIT; variable++) {
                    if (hasBit(bits & ~bound, variable)) {
                        takeVariable(query, store, bound, variable);
                        bound |= 1 << variable;
                    }
                }
            }
        }

        private void takeVariable(Query query, Store store, int bound, int variable) {
            for (int place = 0; place < made.size() && !made.isOver(); place++) {
                int row = made.row(place);
                long allowed = -1L;
                for (int index = 0; index < query.size(); index++) {
                    Pattern pattern = query.pattern(index);
                    if (hasBit(pattern.variableBits(), variable)) {
                        gather(pattern, store, bound, row);
                        allowed &= numbersAside(variable);
                    }
                }
                addEach(row, variable, allowed);
            }
            made.turn();
        }

        private void addEach(int row, int variable, long numbers) {
            for (int number = 0; number < NUMBER_LIMIT; number++) {
                if ((numbers >> number & 1L) != 0L) {
                    made.add(row | number << cellShift(variable));
                }
            }
        }

        /** The numbers that a variable has in the rows put to the side, as bits. */
        private long numbersAside(int variable) {
            long numbers = 0L;
            for (int place = 0; place < side.size(); place++) {
                numbers |= 1L << cellOf(side.row(place), variable);
            }
            return numbers;
        }

        void loop(Query query, Store store) {
            made.beginWithNothingBound();
            int bound = 0;
            for (int index = 0; index < query.size(); index++) {
                Pattern pattern = query.pattern(index);
                for (int place = 0; place < made.size() && !made.isOver(); place++) {
                    tryAllTriples(pattern, store, bound, made.row(place));
                }
                made.turn();
                bound |= pattern.variableBits();
            }
        }

        private void tryAllTriples(Pattern pattern, Store store, int bound, int row) {
            int mask = pattern.maskWith(bound);
            int value = pattern.valueWith(bound, row);
            Sorted all = store.all();
            int size = all.size();
            for (int place = 0; place < size; place++) {
                int triple = all.key(place);
                if ((triple & mask) == value) {
                    int wide = pattern.widen(bound, row, triple);
                    if (wide != NO_ROW) {
                        made.add(wide);
                    }
                }
            }
        }
    }
}
