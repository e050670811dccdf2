import java.util.Arrays;

/**
 * An attribute grammar that is analysed, compiled to sequences of visits, and run on trees.
 *
 * <p>All rows are made in the constructors and used again, so that no call but a throwing one makes
 * an object. Sets of occurrences or attributes are the bits of one int, since a production has at
 * most 16 occurrences.
 */
public final class VisitGrammar {
    private static final int NONE = -1;

    private static final int MOST_SYMBOLS = 6;
    private static final int MOST_ATTRIBUTES = 4;
    private static final int MOST_PRODUCTIONS = 10;
    private static final int MOST_NODES = 40;
    private static final int MOST_STEPS = 500;
    private static final int POSITIONS = 4;
    private static final int OCCURRENCES = POSITIONS * MOST_ATTRIBUTES;

    private static final int NUMBER = 0;
    private static final int TOKEN = 1;
    private static final int COPY = 2;
    private static final int SUM = 3;
    private static final int DIFFERENCE = 4;
    private static final int PRODUCT = 5;
    private static final int GREATER = 6;
    private static final int TOKEN_SUM = 7;

    private static final int NO_FAULT = 0;
    private static final int INCOMPLETE = 1;
    private static final int CIRCULAR = 2;
    private static final int UNORDERED = 3;

    private static final int VISIT = 100;
    private static final int LEAVE = 1000;

    private static final int NO_RUN = 0;
    private static final int GOING_ON = 1;
    private static final int DONE = 2;

    private final Grammar grammar;
    private final Analysis analysis;
    private final Tree tree;
    private final Walk walk;

    public VisitGrammar() {
        grammar = new Grammar();
        analysis = new Analysis(grammar);
        tree = new Tree(grammar);
        walk = new Walk(grammar, analysis.sequences, tree);
    }

    public int symbol(int attributes, int inherited)
            throws IllegalArgumentException, IllegalStateException {
        if (attributes < 0 || attributes > MOST_ATTRIBUTES) {
            throw new IllegalArgumentException("attributes are not 0 to 4");
        }
        if (grammar.symbolCount == MOST_SYMBOLS) {
            throw new IllegalStateException("there are 6 symbols");
        }
        dropAnalysis();
        return grammar.addSymbol(attributes, inherited);
    }

    public int production(int left, int right1, int right2, int right3)
            throws IllegalArgumentException, IllegalStateException {
        if (!grammar.hasSymbol(left) || !grammar.isRight(right1, right2, right3)) {
            throw new IllegalArgumentException("no such symbol, or something behind a -1");
        }
        if (grammar.productionCount == MOST_PRODUCTIONS) {
            throw new IllegalStateException("there are 10 productions");
        }
        dropAnalysis();
        return grammar.addProduction(left, right1, right2, right3);
    }

    public void rule(int production, int occurrence, int form, int x, int y)
            throws IndexOutOfBoundsException, IllegalArgumentException {
        if (!grammar.hasProduction(production)) {
            throw new IndexOutOfBoundsException("no such production");
        }
        if (!grammar.isToBeDefined(production, occurrence)) {
            throw new IllegalArgumentException("not an occurrence to be defined");
        }
        if (!grammar.isForm(production, form, x, y)) {
            throw new IllegalArgumentException("no such form, or no such occurrence used");
        }
        dropAnalysis();
        grammar.setRule(production, occurrence, form, x, y);
    }

    public int analyse() throws IllegalStateException, UnsupportedOperationException {
        walk.end();
        analysis.make();
        if (analysis.faultKind == CIRCULAR || analysis.faultKind == UNORDERED) {
            throw new UnsupportedOperationException("circular, or not ordered");
        }
        if (!analysis.present) {
            throw new IllegalStateException("incomplete, or no production");
        }
        return analysis.sequences.lengthOfAll();
    }

    public int fault(int what) {
        switch (what) {
            case 0:
                return analysis.faultKind;
            case 1:
                return analysis.faultProduction;
            case 2:
                return analysis.faultOccurrence;
            default:
                return NONE;
        }
    }

    public int visits(int symbol) throws IllegalStateException, IndexOutOfBoundsException {
        requireAnalysis();
        if (!grammar.hasSymbol(symbol)) {
            throw new IndexOutOfBoundsException("no such symbol");
        }
        return analysis.ranking.visitCounts[symbol];
    }

    public int rank(int symbol, int attribute)
            throws IllegalStateException, IndexOutOfBoundsException {
        requireAnalysis();
        if (!grammar.hasSymbol(symbol) || !grammar.hasAttribute(symbol, attribute)) {
            throw new IndexOutOfBoundsException("no such symbol or attribute");
        }
        return analysis.ranking.ranks[symbol * MOST_ATTRIBUTES + attribute];
    }

    public int instruction(int production, int k)
            throws IllegalStateException, IndexOutOfBoundsException {
        requireAnalysis();
        if (!grammar.hasProduction(production) || k < 0) {
            throw new IndexOutOfBoundsException("no such production, or k below 0");
        }
        return analysis.sequences.at(production, k);
    }

    public int node(int production, int token, int child1, int child2, int child3)
            throws IllegalArgumentException, IllegalStateException {
        if (!grammar.hasProduction(production)
                || !tree.canBeChildren(production, child1, child2, child3)) {
            throw new IllegalArgumentException("no such production, or a child that will not do");
        }
        if (tree.nodeCount == MOST_NODES) {
            throw new IllegalStateException("there are 40 nodes");
        }
        return tree.grow(production, token, child1, child2, child3);
    }

    public void fell() {
        walk.end();
        tree.clear();
    }

    public void give(int attribute, int value) throws IndexOutOfBoundsException {
        if (attribute < 0 || attribute >= MOST_ATTRIBUTES) {
            throw new IndexOutOfBoundsException("not an attribute 0 to 3");
        }
        walk.given[attribute] = value;
    }

    public void start(int root) throws IllegalStateException, IndexOutOfBoundsException {
        requireAnalysis();
        if (!tree.hasNode(root)) {
            throw new IndexOutOfBoundsException("no such node");
        }
        walk.begin(root);
    }

    public int run(int steps) throws IllegalArgumentException, IllegalStateException {
        if (steps < 0 || steps > MOST_STEPS) {
            throw new IllegalArgumentException("steps are not 0 to 500");
        }
        if (walk.state == NO_RUN) {
            throw new IllegalStateException("there is no run");
        }
        return walk.advance(steps);
    }

    public int status() {
        return walk.state;
    }

    public int atHand() {
        return walk.state == GOING_ON ? walk.nodeAtHand : NONE;
    }

    public boolean knows(int node, int attribute) throws IndexOutOfBoundsException {
        requireAttribute(node, attribute);
        return walk.isKnown(node, attribute);
    }

    public int value(int node, int attribute)
            throws IndexOutOfBoundsException, IllegalStateException {
        requireAttribute(node, attribute);
        if (!walk.isKnown(node, attribute)) {
            throw new IllegalStateException("the attribute is not known");
        }
        return walk.values[node * MOST_ATTRIBUTES + attribute];
    }

    /** A run follows the sequences of the analysis, so it can't outlive it. */
    private void dropAnalysis() {
        analysis.present = false;
        walk.end();
    }

    private void requireAnalysis() {
        if (!analysis.present) {
            throw new IllegalStateException("there is no analysis");
        }
    }

    private void requireAttribute(int node, int attribute) {
        if (!tree.hasNode(node) || !grammar.hasAttribute(tree.symbolOf(node), attribute)) {
            throw new IndexOutOfBoundsException("no such node or attribute");
        }
    }

    private static boolean holds(int bits, int member) {
        return (bits >> member & 1) != 0;
    }

    private static boolean holdsAll(int bits, int members) {
        return (members & ~bits) == 0;
    }

    private static int leastOf(int bits) {
        return bits == 0 ? NONE : Integer.bitCount((bits & -bits) - 1);
    }

    /** The symbols, the productions and their rules. */
    private static final class Grammar {
        private final int[] attributeCounts = new int[MOST_SYMBOLS];
        private final int[] inheritedBits = new int[MOST_SYMBOLS];
        private int symbolCount;

        private final int[] symbolsAt = new int[MOST_PRODUCTIONS * POSITIONS];
        private final int[] lastPositions = new int[MOST_PRODUCTIONS];
        private final int[] presentBits = new int[MOST_PRODUCTIONS];
        private final int[] toDefineBits = new int[MOST_PRODUCTIONS];
        private int productionCount;

        private final int[] ruledBits = new int[MOST_PRODUCTIONS];
        private final int[] forms = new int[MOST_PRODUCTIONS * OCCURRENCES];
        private final int[] firsts = new int[MOST_PRODUCTIONS * OCCURRENCES];
        private final int[] seconds = new int[MOST_PRODUCTIONS * OCCURRENCES];
        private final int[] usedBits = new int[MOST_PRODUCTIONS * OCCURRENCES];

        boolean hasSymbol(int symbol) {
            return symbol >= 0 && symbol < symbolCount;
        }

        boolean hasAttribute(int symbol, int attribute) {
            return attribute >= 0 && attribute < attributeCounts[symbol];
        }

        boolean hasProduction(int production) {
            return production >= 0 && production < productionCount;
        }

        boolean hasOccurrence(int production, int occurrence) {
            return occurrence >= 0 && occurrence < OCCURRENCES
                    && holds(presentBits[production], occurrence);
        }

        boolean isToBeDefined(int production, int occurrence) {
            return hasOccurrence(production, occurrence)
                    && holds(toDefineBits[production], occurrence);
        }

        boolean isRight(int right1, int right2, int right3) {
            if (right1 == NONE) {
                return right2 == NONE && right3 == NONE;
            }
            if (right2 == NONE) {
                return hasSymbol(right1) && right3 == NONE;
            }
            return hasSymbol(right1) && hasSymbol(right2)
                    && (right3 == NONE || hasSymbol(right3));
        }

        boolean isForm(int production, int form, int x, int y) {
            return form >= NUMBER && form <= TOKEN_SUM
                    && (!usesFirst(form) || hasOccurrence(production, x))
                    && (!usesSecond(form) || hasOccurrence(production, y));
        }

        int symbolAt(int production, int position) {
            return symbolsAt[production * POSITIONS + position];
        }

        int addSymbol(int attributes, int inherited) {
            int symbol = symbolCount;
            attributeCounts[symbol] = attributes;
            inheritedBits[symbol] = inherited & allAttributes(symbol);
            symbolCount++;
            return symbol;
        }

        int addProduction(int left, int right1, int right2, int right3) {
            int production = productionCount;
            productionCount++;
            place(production, 0, left);
            place(production, 1, right1);
            place(production, 2, right2);
            place(production, 3, right3);
            return production;
        }

        private void place(int production, int position, int symbol) {
            if (symbol == NONE) {
                return;
            }
            int inherited = inheritedBits[symbol];
            int all = allAttributes(symbol);
            int toDefine = position == 0 ? all & ~inherited : inherited;
            int shift = position * MOST_ATTRIBUTES;
            symbolsAt[production * POSITIONS + position] = symbol;
            lastPositions[production] = position;
            presentBits[production] |= all << shift;
            toDefineBits[production] |= toDefine << shift;
        }

        void setRule(int production, int occurrence, int form, int x, int y) {
            int at = production * OCCURRENCES + occurrence;
            forms[at] = form;
            firsts[at] = x;
            seconds[at] = y;
            usedBits[at] = (usesFirst(form) ? 1 << x : 0) | (usesSecond(form) ? 1 << y : 0);
            ruledBits[production] |= 1 << occurrence;
        }

        int allAttributes(int symbol) {
            return (1 << attributeCounts[symbol]) - 1;
        }

        int leastWithoutRule(int production) {
            return leastOf(toDefineBits[production] & ~ruledBits[production]);
        }

        private static boolean usesFirst(int form) {
            return form >= COPY;
        }

        private static boolean usesSecond(int form) {
            return form >= SUM && form <= GREATER;
        }
    }

    /** What leads to what, in each production and in each symbol. */
    private static final class Leads {
        // Each round but the last adds one at least of the 16 pairs of 6 symbols.
        private static final int MOST_ROUNDS =
                MOST_SYMBOLS * MOST_ATTRIBUTES * MOST_ATTRIBUTES + 1;

        private final Grammar grammar;
        private final int[] ofOccurrences = new int[MOST_PRODUCTIONS * OCCURRENCES];
        private final int[] ofAttributes = new int[MOST_SYMBOLS * MOST_ATTRIBUTES];

        Leads(Grammar grammar) {
            this.grammar = grammar;
        }

        /** The least relations that hold the rules and that productions and symbols share. */
        void spread() {
            Arrays.fill(ofAttributes, 0);
            takeRules();
            boolean grown = true;
            for (int round = 0; grown && round < MOST_ROUNDS; round++) {
                grown = false;
                for (int production = 0; production < grammar.productionCount; production++) {
                    takeFromSymbols(production);
                    close(production);
                    if (giveToSymbols(production)) {
                        grown = true;
                    }
                }
            }
        }

        /** Takes what has been added to the attributes' leads since, without handing it on. */
        void takeOrder() {
            for (int production = 0; production < grammar.productionCount; production++) {
                takeFromSymbols(production);
                close(production);
            }
        }

        int leastLeadingToItself(int production) {
            int row = production * OCCURRENCES;
            for (int occurrence = 0; occurrence < OCCURRENCES; occurrence++) {
                if (holds(ofOccurrences[row + occurrence], occurrence)) {
                    return occurrence;
                }
            }
            return NONE;
        }

        private void takeRules() {
            Arrays.fill(ofOccurrences, 0);
            for (int production = 0; production < grammar.productionCount; production++) {
                int row = production * OCCURRENCES;
                for (int defined = 0; defined < OCCURRENCES; defined++) {
                    takeRule(row, defined, grammar.usedBits[row + defined]);
                }
            }
        }

        private void takeRule(int row, int defined, int used) {
            for (int occurrence = 0; used != 0 && occurrence < OCCURRENCES; occurrence++) {
                if (holds(used, occurrence)) {
                    ofOccurrences[row + occurrence] |= 1 << defined;
                }
            }
        }

        private void takeFromSymbols(int production) {
            for (int position = 0; position <= grammar.lastPositions[production]; position++) {
                int from = grammar.symbolAt(production, position) * MOST_ATTRIBUTES;
                int shift = position * MOST_ATTRIBUTES;
                int to = production * OCCURRENCES + shift;
                for (int attribute = 0; attribute < MOST_ATTRIBUTES; attribute++) {
                    ofOccurrences[to + attribute] |= ofAttributes[from + attribute] << shift;
                }
            }
        }

        private void close(int production) {
            int row = production * OCCURRENCES;
            for (int via = 0; via < OCCURRENCES; via++) {
                int further = ofOccurrences[row + via];
                for (int from = 0; further != 0 && from < OCCURRENCES; from++) {
                    if (holds(ofOccurrences[row + from], via)) {
                        ofOccurrences[row + from] |= further;
                    }
                }
            }
        }

        private boolean giveToSymbols(int production) {
            boolean grown = false;
            for (int position = 0; position <= grammar.lastPositions[production]; position++) {
                int to = grammar.symbolAt(production, position) * MOST_ATTRIBUTES;
                int shift = position * MOST_ATTRIBUTES;
                int from = production * OCCURRENCES + shift;
                for (int attribute = 0; attribute < MOST_ATTRIBUTES; attribute++) {
                    int led = othersAt(shift, attribute, ofOccurrences[from + attribute]);
                    if (!holdsAll(ofAttributes[to + attribute], led)) {
                        ofAttributes[to + attribute] |= led;
                        grown = true;
                    }
                }
            }
            return grown;
        }

        /** The document hands on to symbols only what leads to another attribute, not to itself. */
        private static int othersAt(int shift, int attribute, int led) {
            int all = (1 << MOST_ATTRIBUTES) - 1;
            return led >> shift & all & ~(1 << attribute);
        }
    }

    /** The ranks of the attributes, and the visits to which they belong. */
    private static final class Ranking {
        // A visit's number is at most 3, since ranks of four attributes do not go above 5.
        private static final int VISITS_ROW = 4;

        private final Grammar grammar;
        private final Leads leads;
        private final int[] ranks = new int[MOST_SYMBOLS * MOST_ATTRIBUTES];
        private final int[] visitCounts = new int[MOST_SYMBOLS];
        private final int[] belonging = new int[MOST_SYMBOLS * VISITS_ROW];

        Ranking(Grammar grammar, Leads leads) {
            this.grammar = grammar;
            this.leads = leads;
        }

        /** Needs leads without circles. */
        void make() {
            Arrays.fill(belonging, 0);
            for (int symbol = 0; symbol < grammar.symbolCount; symbol++) {
                rankAttributes(symbol);
                countVisits(symbol);
                shareOut(symbol);
            }
        }

        /** Lets attributes of greater rank lead to those of less, as ORDERED asks. */
        void addToLeads() {
            for (int symbol = 0; symbol < grammar.symbolCount; symbol++) {
                int row = symbol * MOST_ATTRIBUTES;
                for (int from = 0; from < grammar.attributeCounts[symbol]; from++) {
                    leads.ofAttributes[row + from] |= ofLessRank(symbol, ranks[row + from]);
                }
            }
        }

        int inheritedOf(int symbol, int visit) {
            return belonging[symbol * VISITS_ROW + visit] & grammar.inheritedBits[symbol];
        }

        int synthesizedOf(int symbol, int visit) {
            return belonging[symbol * VISITS_ROW + visit] & ~grammar.inheritedBits[symbol];
        }

        private void rankAttributes(int symbol) {
            int count = grammar.attributeCounts[symbol];
            int row = symbol * MOST_ATTRIBUTES;
            for (int attribute = 0; attribute < count; attribute++) {
                ranks[row + attribute] = leastRank(symbol, attribute);
            }
            // A chain of leads has fewer links than the symbol has attributes.
            for (int round = 1; round < count; round++) {
                for (int attribute = 0; attribute < count; attribute++) {
                    ranks[row + attribute] = rankAboveLed(symbol, attribute);
                }
            }
        }

        private int leastRank(int symbol, int attribute) {
            return holds(grammar.inheritedBits[symbol], attribute) ? 2 : 1;
        }

        private int rankAboveLed(int symbol, int attribute) {
            int row = symbol * MOST_ATTRIBUTES;
            int before = ranks[row + attribute];
            int floor = before;
            for (int to = 0; to < grammar.attributeCounts[symbol]; to++) {
                if (holds(leads.ofAttributes[row + attribute], to)) {
                    floor = Math.max(floor, ranks[row + to]);
                }
            }
            // Inherited attributes keep even ranks and synthesized ones odd ranks.
            return floor + (floor - before & 1);
        }

        private void countVisits(int symbol) {
            int greatest = 1;
            for (int attribute = 0; attribute < grammar.attributeCounts[symbol]; attribute++) {
                greatest = Math.max(greatest, ranks[symbol * MOST_ATTRIBUTES + attribute]);
            }
            visitCounts[symbol] = (greatest + 1) / 2;
        }

        private void shareOut(int symbol) {
            for (int attribute = 0; attribute < grammar.attributeCounts[symbol]; attribute++) {
                int rank = ranks[symbol * MOST_ATTRIBUTES + attribute];
                int visit = visitCounts[symbol] - (rank - 1) / 2;
                belonging[symbol * VISITS_ROW + visit] |= 1 << attribute;
            }
        }

        private int ofLessRank(int symbol, int rank) {
            int less = 0;
            for (int attribute = 0; attribute < grammar.attributeCounts[symbol]; attribute++) {
                if (ranks[symbol * MOST_ATTRIBUTES + attribute] < rank) {
                    less |= 1 << attribute;
                }
            }
            return less;
        }
    }

    /** The instructions of each production. */
    private static final class Sequences {
        // At most 16 SETs, 3 visits of each of 3 positions, and 3 LEAVEs.
        private static final int ROW = 32;

        private final Grammar grammar;
        private final Ranking ranking;
        private final int[] instructions = new int[MOST_PRODUCTIONS * ROW];
        private final int[] lengths = new int[MOST_PRODUCTIONS];

        // Of the production that is being written; at position 0 the LEAVEs are counted.
        private final int[] visitsWritten = new int[POSITIONS];
        private int setBits;
        private int knownBits;

        Sequences(Grammar grammar, Ranking ranking) {
            this.grammar = grammar;
            this.ranking = ranking;
        }

        int at(int production, int k) {
            return k < lengths[production] ? instructions[production * ROW + k] : NONE;
        }

        int lengthOfAll() {
            int all = 0;
            for (int production = 0; production < grammar.productionCount; production++) {
                all += lengths[production];
            }
            return all;
        }

        /** Needs ORDERED occurrences: then one instruction is ready until all are written. */
        void write() {
            for (int production = 0; production < grammar.productionCount; production++) {
                beginWriting(production);
                int length = fullLength(production);
                for (int k = 0; k < length; k++) {
                    instructions[production * ROW + k] = writeNext(production, k == length - 1);
                }
                lengths[production] = length;
            }
        }

        private void beginWriting(int production) {
            Arrays.fill(visitsWritten, 0);
            setBits = 0;
            knownBits = ranking.inheritedOf(grammar.symbolAt(production, 0), 1);
        }

        private int fullLength(int production) {
            int length = Integer.bitCount(grammar.toDefineBits[production]);
            for (int position = 0; position <= grammar.lastPositions[production]; position++) {
                length += visitsAt(production, position);
            }
            return length;
        }

        private int visitsAt(int production, int position) {
            return ranking.visitCounts[grammar.symbolAt(production, position)];
        }

        private int writeNext(int production, boolean allElseIsThere) {
            int occurrence = readySet(production);
            if (occurrence != NONE) {
                return writeSet(occurrence);
            }
            int position = readyVisit(production);
            if (position != NONE) {
                return writeVisit(production, position);
            }
            return isLeaveReady(production, allElseIsThere) ? writeLeave(production) : NONE;
        }

        private int readySet(int production) {
            int missing = grammar.toDefineBits[production] & ~setBits;
            int row = production * OCCURRENCES;
            for (int occurrence = 0; occurrence < OCCURRENCES; occurrence++) {
                if (holds(missing, occurrence)
                        && holdsAll(knownBits, grammar.usedBits[row + occurrence])) {
                    return occurrence;
                }
            }
            return NONE;
        }

        private int readyVisit(int production) {
            for (int position = 1; position <= grammar.lastPositions[production]; position++) {
                int visit = visitsWritten[position] + 1;
                if (visit <= visitsAt(production, position)) {
                    int symbol = grammar.symbolAt(production, position);
                    int needed = ranking.inheritedOf(symbol, visit);
                    if (holdsAll(setBits, needed << position * MOST_ATTRIBUTES)) {
                        return position;
                    }
                }
            }
            return NONE;
        }

        private boolean isLeaveReady(int production, boolean allElseIsThere) {
            int visit = visitsWritten[0] + 1;
            int visits = visitsAt(production, 0);
            return visit <= visits
                    && (visit < visits || allElseIsThere)
                    && holdsAll(setBits,
                            ranking.synthesizedOf(grammar.symbolAt(production, 0), visit));
        }

        private int writeSet(int occurrence) {
            setBits |= 1 << occurrence;
            knownBits |= 1 << occurrence;
            return occurrence;
        }

        private int writeVisit(int production, int position) {
            int visit = ++visitsWritten[position];
            int got = ranking.synthesizedOf(grammar.symbolAt(production, position), visit);
            knownBits |= got << position * MOST_ATTRIBUTES;
            return VISIT * position + visit;
        }

        private int writeLeave(int production) {
            int visit = ++visitsWritten[0];
            if (visit < visitsAt(production, 0)) {
                knownBits |= ranking.inheritedOf(grammar.symbolAt(production, 0), visit + 1);
            }
            return LEAVE + visit;
        }
    }

    /** The latest analysis, or why there is none. */
    private static final class Analysis {
        private final Grammar grammar;
        private final Leads leads;
        private final Ranking ranking;
        private final Sequences sequences;
        private boolean present;
        private int faultKind;
        private int faultProduction = NONE;
        private int faultOccurrence = NONE;

        Analysis(Grammar grammar) {
            this.grammar = grammar;
            leads = new Leads(grammar);
            ranking = new Ranking(grammar, leads);
            sequences = new Sequences(grammar, ranking);
        }

        void make() {
            forgetFault();
            present = grammar.productionCount > 0
                    && isComplete() && isWithoutCircle() && isOrdered();
            if (present) {
                sequences.write();
            }
        }

        private void forgetFault() {
            faultKind = NO_FAULT;
            faultProduction = NONE;
            faultOccurrence = NONE;
        }

        private boolean isComplete() {
            for (int production = 0; production < grammar.productionCount; production++) {
                int occurrence = grammar.leastWithoutRule(production);
                if (occurrence != NONE) {
                    noteFault(INCOMPLETE, production, occurrence);
                    return false;
                }
            }
            return true;
        }

        private boolean isWithoutCircle() {
            leads.spread();
            return noneLeadsToItself(CIRCULAR);
        }

        private boolean isOrdered() {
            ranking.make();
            ranking.addToLeads();
            leads.takeOrder();
            return noneLeadsToItself(UNORDERED);
        }

        private boolean noneLeadsToItself(int kind) {
            for (int production = 0; production < grammar.productionCount; production++) {
                int occurrence = leads.leastLeadingToItself(production);
                if (occurrence != NONE) {
                    noteFault(kind, production, occurrence);
                    return false;
                }
            }
            return true;
        }

        private void noteFault(int kind, int production, int occurrence) {
            faultKind = kind;
            faultProduction = production;
            faultOccurrence = occurrence;
        }
    }

    /** The nodes. */
    private static final class Tree {
        private final Grammar grammar;
        private final int[] productions = new int[MOST_NODES];
        private final int[] tokens = new int[MOST_NODES];
        private final int[] parents = new int[MOST_NODES];
        // A node stands at its own position 0, so that occurrences find their nodes all alike.
        private final int[] nodesAt = new int[MOST_NODES * POSITIONS];
        private int nodeCount;

        Tree(Grammar grammar) {
            this.grammar = grammar;
        }

        boolean hasNode(int node) {
            return node >= 0 && node < nodeCount;
        }

        int symbolOf(int node) {
            return grammar.symbolAt(productions[node], 0);
        }

        int nodeAt(int node, int position) {
            return nodesAt[node * POSITIONS + position];
        }

        boolean canBeChildren(int production, int child1, int child2, int child3) {
            return canBeChild(production, 1, child1)
                    && canBeChild(production, 2, child2)
                    && canBeChild(production, 3, child3)
                    && (child1 == NONE || child1 != child2 && child1 != child3)
                    && (child2 == NONE || child2 != child3);
        }

        private boolean canBeChild(int production, int position, int child) {
            if (position > grammar.lastPositions[production]) {
                return child == NONE;
            }
            return hasNode(child)
                    && parents[child] == NONE
                    && symbolOf(child) == grammar.symbolAt(production, position);
        }

        int grow(int production, int token, int child1, int child2, int child3) {
            int node = nodeCount;
            nodeCount++;
            productions[node] = production;
            tokens[node] = token;
            parents[node] = NONE;
            nodesAt[node * POSITIONS] = node;
            adopt(node, 1, child1);
            adopt(node, 2, child2);
            adopt(node, 3, child3);
            return node;
        }

        private void adopt(int node, int position, int child) {
            nodesAt[node * POSITIONS + position] = child;
            if (child != NONE) {
                parents[child] = node;
            }
        }

        void clear() {
            nodeCount = 0;
        }
    }

    /** The run on a tree. */
    private static final class Walk {
        private final Grammar grammar;
        private final Sequences sequences;
        private final Tree tree;
        private final int[] given = new int[MOST_ATTRIBUTES];
        private final int[] values = new int[MOST_NODES * MOST_ATTRIBUTES];
        private final int[] knownBits = new int[MOST_NODES];
        private final int[] instructionsDone = new int[MOST_NODES];
        private int state;
        private int root;
        private int nodeAtHand;

        Walk(Grammar grammar, Sequences sequences, Tree tree) {
            this.grammar = grammar;
            this.sequences = sequences;
            this.tree = tree;
        }

        void begin(int node) {
            Arrays.fill(knownBits, 0);
            Arrays.fill(instructionsDone, 0);
            System.arraycopy(given, 0, values, node * MOST_ATTRIBUTES, MOST_ATTRIBUTES);
            knownBits[node] = grammar.inheritedBits[tree.symbolOf(node)];
            root = node;
            nodeAtHand = node;
            state = GOING_ON;
        }

        void end() {
            state = NO_RUN;
        }

        boolean isKnown(int node, int attribute) {
            return state != NO_RUN && holds(knownBits[node], attribute);
        }

        int advance(int steps) {
            int made = 0;
            while (made < steps && state == GOING_ON) {
                step();
                made++;
            }
            return made;
        }

        private void step() {
            int production = tree.productions[nodeAtHand];
            int next = sequences.at(production, instructionsDone[nodeAtHand]);
            instructionsDone[nodeAtHand]++;
            if (next >= LEAVE) {
                leaveNode(production);
            } else if (next >= VISIT) {
                nodeAtHand = tree.nodeAt(nodeAtHand, next / VISIT);
            } else if (next >= 0) {
                setOccurrence(next, result(production * OCCURRENCES + next));
            }
        }

        /** The root may have a parent, which is not part of the run. */
        private void leaveNode(int production) {
            if (nodeAtHand != root) {
                nodeAtHand = tree.parents[nodeAtHand];
            } else if (instructionsDone[root] == sequences.lengths[production]) {
                state = DONE;
            }
        }

        private void setOccurrence(int occurrence, int value) {
            int node = tree.nodeAt(nodeAtHand, occurrence / MOST_ATTRIBUTES);
            int attribute = occurrence % MOST_ATTRIBUTES;
            values[node * MOST_ATTRIBUTES + attribute] = value;
            knownBits[node] |= 1 << attribute;
        }

        private int result(int rule) {
            int x = grammar.firsts[rule];
            int y = grammar.seconds[rule];
            switch (grammar.forms[rule]) {
                case NUMBER:
                    return x;
                case TOKEN:
                    return tree.tokens[nodeAtHand];
                case COPY:
                    return valueOf(x);
                case SUM:
                    return valueOf(x) + valueOf(y);
                case DIFFERENCE:
                    return valueOf(x) - valueOf(y);
                case PRODUCT:
                    return valueOf(x) * valueOf(y);
                case GREATER:
                    return Math.max(valueOf(x), valueOf(y));
                default:
                    return tree.tokens[nodeAtHand] + valueOf(x);
            }
        }

        private int valueOf(int occurrence) {
            int node = tree.nodeAt(nodeAtHand, occurrence / MOST_ATTRIBUTES);
            return values[node * MOST_ATTRIBUTES + occurrence % MOST_ATTRIBUTES];
        }
    }
}
