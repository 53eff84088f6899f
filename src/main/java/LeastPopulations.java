/** Diagrams of classes and how many objects they need; ../shared/DOC.md says what each call does. */
public final class LeastPopulations {
    public static final int UNKNOWN = -1;
    public static final int BAD_VALUE = -2;
    public static final int FULL = -3;
    public static final int NOT_POSSIBLE = -4;
    public static final int NONE = -5;

    private static final int MOST_CLASSES = 8;
    private static final int NO_PARENT = 8;
    private static final int MOST_WANTED = 99;
    private static final int MOST_POPULATION = 1000;
    private static final int TOO_MANY = MOST_POPULATION + 1;
    private static final int BITS_OF_LARGEST_SIZE = 0x447A0000;

    private static final int MOST_LINKS = 10;
    private static final int LARGEST_COUNT = 20;
    private static final int NO_LIMIT = 99;
    private static final int NO_LIMIT_AS_FACTOR = 1000000;

    // a link is a row of six numbers, in the order in which link(link, what) tells them
    private static final int ROW = 6;
    private static final int FIRST_CLASS = 0;
    private static final int SECOND_CLASS = 1;
    private static final int COUNTS = 2;
    private static final int FIRST_LEAST = 2;
    private static final int FIRST_MOST = 3;
    private static final int SECOND_LEAST = 4;
    private static final int SECOND_MOST = 5;

    private static final int RULES_OF_PARENTS = 40;
    private static final int RULES_OF_WANTS = 50;
    private static final int LAST_RULE = 57;
    private static final int ALL_ARE_KEPT = 99;

    // of the four counts of a link, in the order of repair(): the rules of the link in which
    // each one stands, as bits
    private static final int[] RULES_WITH_COUNT = {10, 1, 5, 2};

    // of the rules of a link, as bits: those that ask for more when its first class grows, and
    // those that do so when its second class grows
    private static final long RULES_THAT_LOOK_AT_FIRST = 5L;
    private static final long RULES_THAT_LOOK_AT_SECOND = 10L;

    private static final int MOST_STATES = 4;
    private static final int MOST_CHARACTERS = 60;
    private static final int FAULT_AT_START = -100;

    private final Diagram now = new Diagram();
    private final Diagram snapshot = new Diagram();
    private boolean hasSnapshot = false;
    private final History history = new History();
    private final LinkText text = new LinkText();
    private final Populations leasts = new Populations();
    private boolean leastsStand = false;
    private final Populations trial = new Populations();
    private final int[] trialWants = new int[MOST_CLASSES];

    public LeastPopulations() {
    }

    // ---- classes

    public int addClass() {
        if (now.classes >= MOST_CLASSES) {
            return FULL;
        }
        beginAct();
        return now.appendClass();
    }

    public int setParent(int which, int parent) {
        if (!now.hasClass(which)) {
            return UNKNOWN;
        }
        if (parent != NO_PARENT && !now.hasClass(parent)) {
            return BAD_VALUE;
        }
        if (now.isSameOrAbove(which, parent)) {
            return NOT_POSSIBLE;
        }
        int before = now.parents[which];
        if (before == parent) {
            return NONE;
        }
        beginAct();
        now.parents[which] = parent;
        return before;
    }

    public int want(int which, int wanted) {
        if (!now.hasClass(which)) {
            return UNKNOWN;
        }
        if (wanted < 0 || wanted > MOST_WANTED) {
            return BAD_VALUE;
        }
        int before = now.wants[which];
        if (before == wanted) {
            return NONE;
        }
        beginAct();
        now.wants[which] = wanted;
        return before;
    }

    public int setSize(int which, int bits) {
        if (!now.hasClass(which)) {
            return UNKNOWN;
        }
        // floats that are not negative are in the order of their bits, NaNs are above them all,
        // and a sign makes the bits negative: this leaves out -0.0f, too
        if (bits < 0 || bits > BITS_OF_LARGEST_SIZE) {
            return BAD_VALUE;
        }
        float told = floatOfBits(bits);
        if (now.sizes[which] == told) {
            return NONE;
        }
        beginAct();
        now.sizes[which] = told;
        return 1;
    }

    // ---- links

    public int readLink() {
        if (!text.isLink()) {
            return FAULT_AT_START - text.place;
        }
        if (!now.hasClass(text.row[FIRST_CLASS]) || !now.hasClass(text.row[SECOND_CLASS])) {
            return UNKNOWN;
        }
        if (now.links >= MOST_LINKS) {
            return FULL;
        }
        beginAct();
        return now.appendLink(text.row);
    }

    public int setCounts(int link, int end, int least, int most) {
        if (!now.hasLink(link) || !isEnd(end)) {
            return UNKNOWN;
        }
        if (least < 0 || least > LARGEST_COUNT) {
            return BAD_VALUE;
        }
        if (most != NO_LIMIT && (most < least || most > LARGEST_COUNT)) {
            return BAD_VALUE;
        }
        int place = ROW * link + COUNTS + 2 * end;
        int leastBefore = now.rows[place];
        int mostBefore = now.rows[place + 1];
        if (leastBefore == least && mostBefore == most) {
            return NONE;
        }
        beginAct();
        now.rows[place] = least;
        now.rows[place + 1] = most;
        return 100 * leastBefore + mostBefore;
    }

    public int removeLink(int link) {
        if (!now.hasLink(link)) {
            return UNKNOWN;
        }
        beginAct();
        now.dropLink(link);
        return now.links;
    }

    // ---- populations that are held

    public int hold(int which, int population) {
        if (!now.hasClass(which)) {
            return UNKNOWN;
        }
        if (population < 0 || population > MOST_POPULATION) {
            return BAD_VALUE;
        }
        if (now.held[which] == population) {
            return NONE;
        }
        beginAct();
        now.held[which] = population;
        return now.firstRuleBroken();
    }

    public int adopt() {
        if (!thereAreLeasts()) {
            return NOT_POSSIBLE;
        }
        if (leasts.areTheSame(now.held, now.classes)) {
            return NONE;
        }
        beginAct();
        System.arraycopy(leasts.people, 0, now.held, 0, now.classes);
        return now.objectsIn(now.held);
    }

    // ---- texts

    public int type(char character) {
        if (text.length >= MOST_CHARACTERS) {
            return FULL;
        }
        text.characters[text.length] = character;
        text.length++;
        return text.length;
    }

    public int clearText() {
        int before = text.length;
        text.length = 0;
        return before;
    }

    // ---- history

    public int undo() {
        if (history.length == 0) {
            return NONE;
        }
        history.takeLatest(now);
        leastsStand = false;
        return history.length;
    }

    public int keep() {
        snapshot.become(now);
        hasSnapshot = true;
        return now.classes;
    }

    public int restore() {
        if (!hasSnapshot) {
            return NONE;
        }
        beginAct();
        now.become(snapshot);
        return now.classes;
    }

    // ---- classes and links as they are

    public int classTold(int which, int what) {
        if (!now.hasClass(which)) {
            return UNKNOWN;
        }
        switch (what) {
            case 0:
                return now.parents[which] == NO_PARENT ? NONE : now.parents[which];
            case 1:
                return now.wants[which];
            case 2:
                return now.childrenOf(which);
            case 3:
                return now.held[which];
            case 4:
                return now.linksOf(which);
            default:
                return BAD_VALUE;
        }
    }

    public int link(int link, int what) {
        if (!now.hasLink(link)) {
            return UNKNOWN;
        }
        if (what < 0 || what >= ROW) {
            return BAD_VALUE;
        }
        return now.rows[ROW * link + what];
    }

    public float size(int which) {
        if (!now.hasClass(which)) {
            return notANumber();
        }
        return now.sizes[which];
    }

    // ---- least populations

    public int least(int which) {
        if (!now.hasClass(which)) {
            return UNKNOWN;
        }
        return thereAreLeasts() ? leasts.people[which] : NOT_POSSIBLE;
    }

    public int why(int which) {
        if (!now.hasClass(which)) {
            return UNKNOWN;
        }
        if (!thereAreLeasts()) {
            return NOT_POSSIBLE;
        }
        int least = leasts.people[which];
        if (least == 0) {
            return NONE;
        }
        for (int rule = 0; rule <= LAST_RULE; rule++) {
            if (now.hasRule(rule) && now.classAsked(rule) == which
                    && now.numberAsked(rule, leasts.people) == least) {
                return rule;
            }
        }
        return NONE;
    }

    public int isForced(int which) {
        if (!now.hasClass(which)) {
            return UNKNOWN;
        }
        return mustBeEmpty(which) ? 1 : 0;
    }

    public int oneMore(int which) {
        if (!now.hasClass(which)) {
            return UNKNOWN;
        }
        if (!thereAreLeasts()) {
            return NOT_POSSIBLE;
        }
        System.arraycopy(now.wants, 0, trialWants, 0, now.classes);
        trialWants[which]++;
        if (!trial.find(now, trialWants)) {
            return NOT_POSSIBLE;
        }
        return now.objectsIn(trial.people) - now.objectsIn(leasts.people);
    }

    public int isIdle(int link, int end, boolean most) {
        if (!now.hasLink(link) || !isEnd(end)) {
            return UNKNOWN;
        }
        return forcesNothing(4 * link + 2 * end + (most ? 1 : 0)) ? 1 : 0;
    }

    public int repair(int rank) {
        if (rank < 0) {
            return BAD_VALUE;
        }
        if (thereAreLeasts()) {
            return NOT_POSSIBLE;
        }
        int found = 0;
        for (int count = 0; count < 4 * now.links; count++) {
            if (canMatter(count) && findWithout(count)) {
                if (found == rank) {
                    return count;
                }
                found++;
            }
        }
        return NONE;
    }

    // ---- held populations

    public int keeps(int rule) {
        if (rule < 0 || rule > LAST_RULE) {
            return BAD_VALUE;
        }
        if (!now.hasRule(rule)) {
            return NONE;
        }
        return now.isKept(rule) ? 1 : 0;
    }

    public int joined(int link, int first, int second) {
        if (!now.hasLink(link)) {
            return UNKNOWN;
        }
        int firsts = now.heldAt(link, 0);
        int seconds = now.heldAt(link, 1);
        if (first < 0 || first >= firsts || second < 0 || second >= seconds) {
            return UNKNOWN;
        }
        if (!now.keepsRulesOf(link)) {
            return NOT_POSSIBLE;
        }
        int pairs = now.pairsOf(link);
        int round = leastCommonMultiple(firsts, seconds);
        for (int pair = first; pair < pairs; pair += firsts) {
            if ((pair + pair / round) % seconds == second) {
                return 1;
            }
        }
        return 0;
    }

    public int degree(int link, int end, int object) {
        if (!now.hasLink(link) || !isEnd(end)) {
            return UNKNOWN;
        }
        if (object < 0 || object >= now.heldAt(link, end)) {
            return UNKNOWN;
        }
        if (!now.keepsRulesOf(link)) {
            return NOT_POSSIBLE;
        }
        int pairs = now.pairsOf(link);
        int firsts = now.heldAt(link, 0);
        int seconds = now.heldAt(link, 1);
        if (firsts == 0 || seconds == 0) {
            return 0;
        }
        if (end == 0) {
            return numbersBelow(pairs, object, firsts);
        }
        // each full round of pairs meets all objects of the second class equally often, and
        // moves the start of the next round by one object
        int round = leastCommonMultiple(firsts, seconds);
        int fullRounds = pairs / round;
        int start = Math.floorMod(object - fullRounds, seconds);
        return fullRounds * (round / seconds) + numbersBelow(pairs % round, start, seconds);
    }

    public float average(int link, int end) {
        if (!now.hasLink(link) || !isEnd(end) || !now.keepsRulesOf(link)) {
            return notANumber();
        }
        int objects = now.heldAt(link, end);
        if (objects == 0) {
            return 0.0f;
        }
        return (float) now.pairsOf(link) / (float) objects;
    }

    public float cost() {
        float sum = 0.0f;
        for (int which = 0; which < now.classes; which++) {
            sum = sum + now.costOf(which);
        }
        return sum;
    }

    public float share(int which) {
        if (!now.hasClass(which)) {
            return notANumber();
        }
        float whole = cost();
        if (whole == 0.0f) {
            return 0.0f;
        }
        return now.costOf(which) / whole;
    }

    public int count(int what) {
        switch (what) {
            case 0:
                return now.classes;
            case 1:
                return now.links;
            case 2:
                return thereAreLeasts() ? now.objectsIn(leasts.people) : NONE;
            case 3:
                return classesForced();
            case 4:
                return now.firstRuleBroken();
            case 5:
                return countsIdle();
            case 6:
                return now.objectsIn(now.held);
            case 7:
                return history.length;
            case 8:
                return text.length;
            default:
                return BAD_VALUE;
        }
    }

    // ---- what the calls above share

    private void beginAct() {
        history.record(now);
        leastsStand = false;
    }

    private boolean thereAreLeasts() {
        if (!leastsStand) {
            leasts.find(now, now.wants);
            leastsStand = true;
        }
        return leasts.exist;
    }

    private boolean mustBeEmpty(int which) {
        for (int other = 0; other < now.classes; other++) {
            trialWants[other] = other == which ? 1 : 0;
        }
        return !trial.find(now, trialWants);
    }

    private int classesForced() {
        int forced = 0;
        for (int which = 0; which < now.classes; which++) {
            if (mustBeEmpty(which)) {
                forced++;
            }
        }
        return forced;
    }

    // A count is told here by the number that repair() has for it: 4 * link, and 0 to 3 more.

    private int countsIdle() {
        int idle = 0;
        for (int count = 0; count < 4 * now.links; count++) {
            if (forcesNothing(count)) {
                idle++;
            }
        }
        return idle;
    }

    private boolean forcesNothing(int count) {
        boolean are = thereAreLeasts();
        if (!canMatter(count)) {
            return true;
        }
        boolean wouldBe = findWithout(count);
        if (!are || !wouldBe) {
            return are == wouldBe;
        }
        return trial.areTheSame(leasts.people, now.classes);
    }

    /**
     * A count can only matter if one of its rules gave a class more when the least populations
     * were sought: otherwise the same gifts are due without it, and lead to the same end.
     */
    private boolean canMatter(int count) {
        if (now.rows[placeOfCount(count)] == countForNothing(count)) {
            return false;
        }
        return (leasts.givers >> (4 * (count / 4)) & RULES_WITH_COUNT[count % 4]) != 0;
    }

    private boolean findWithout(int count) {
        int place = placeOfCount(count);
        int before = now.rows[place];
        now.rows[place] = countForNothing(count);
        boolean found = trial.find(now, now.wants);
        now.rows[place] = before;
        return found;
    }

    private static int placeOfCount(int count) {
        return ROW * (count / 4) + COUNTS + count % 4;
    }

    private static int countForNothing(int count) {
        return count % 2 == 0 ? 0 : NO_LIMIT;
    }

    private static boolean isEnd(int end) {
        return end == 0 || end == 1;
    }

    /** How many of start, start + step, start + 2 * step and so on are below the limit. */
    private static int numbersBelow(int limit, int start, int step) {
        return start >= limit ? 0 : (limit - 1 - start) / step + 1;
    }

    private static int leastCommonMultiple(int one, int other) {
        int divisor = one;
        int rest = other;
        for (int step = 0; step < MOST_POPULATION && rest != 0; step++) {
            int next = divisor % rest;
            divisor = rest;
            rest = next;
        }
        return divisor == 0 ? 0 : one / divisor * other;
    }

    /** Halving is exact here: each step on the way to a float has no more digits than it. */
    private static float floatOfBits(int bits) {
        int exponent = bits >> 23;
        int digits = bits & 0x7FFFFF;
        int halvings = 149;
        if (exponent > 0) {
            digits += 0x800000;
            halvings = 150 - exponent;
        }
        float value = (float) digits;
        for (int done = 0; done < halvings; done++) {
            value = value * 0.5f;
        }
        return value;
    }

    private static float notANumber() {
        return 0.0f / 0.0f;
    }

    /** A state: the classes, the links, and the populations that are held. */
    private static final class Diagram {
        int classes = 0;
        int links = 0;
        final int[] parents = new int[MOST_CLASSES];
        final int[] wants = new int[MOST_CLASSES];
        final int[] held = new int[MOST_CLASSES];
        final float[] sizes = new float[MOST_CLASSES];
        final int[] rows = new int[ROW * MOST_LINKS];

        void become(Diagram other) {
            classes = other.classes;
            links = other.links;
            System.arraycopy(other.parents, 0, parents, 0, classes);
            System.arraycopy(other.wants, 0, wants, 0, classes);
            System.arraycopy(other.held, 0, held, 0, classes);
            System.arraycopy(other.sizes, 0, sizes, 0, classes);
            System.arraycopy(other.rows, 0, rows, 0, ROW * links);
        }

        boolean hasClass(int which) {
            return which >= 0 && which < classes;
        }

        boolean hasLink(int link) {
            return link >= 0 && link < links;
        }

        int appendClass() {
            int which = classes;
            parents[which] = NO_PARENT;
            wants[which] = 0;
            held[which] = 0;
            sizes[which] = 1.0f;
            classes++;
            return which;
        }

        int appendLink(int[] row) {
            int link = links;
            System.arraycopy(row, 0, rows, ROW * link, ROW);
            links++;
            return link;
        }

        void dropLink(int link) {
            int next = ROW * (link + 1);
            System.arraycopy(rows, next, rows, next - ROW, ROW * links - next);
            links--;
        }

        boolean isSameOrAbove(int which, int below) {
            int at = below;
            for (int step = 0; step < MOST_CLASSES && at != NO_PARENT; step++) {
                if (at == which) {
                    return true;
                }
                at = parents[at];
            }
            return false;
        }

        int childrenOf(int which) {
            int children = 0;
            for (int child = 0; child < classes; child++) {
                if (parents[child] == which) {
                    children |= 1 << child;
                }
            }
            return children;
        }

        int linksOf(int which) {
            int found = 0;
            for (int place = 0; place < ROW * links; place += ROW) {
                if (rows[place + FIRST_CLASS] == which || rows[place + SECOND_CLASS] == which) {
                    found++;
                }
            }
            return found;
        }

        int objectsIn(int[] people) {
            int objects = 0;
            for (int which = 0; which < classes; which++) {
                if (parents[which] == NO_PARENT) {
                    objects += people[which];
                }
            }
            return objects;
        }

        float costOf(int which) {
            return sizes[which] * (float) held[which];
        }

        boolean hasRule(int rule) {
            if (rule < RULES_OF_PARENTS) {
                return rule / 4 < links;
            }
            return rule - (rule < RULES_OF_WANTS ? RULES_OF_PARENTS : RULES_OF_WANTS) < classes;
        }

        /** The rules, as bits, whose number asked depends on the population of the class. */
        long rulesThatLookAt(int which) {
            long rules = 0L;
            for (int link = 0; link < links; link++) {
                if (rows[ROW * link + FIRST_CLASS] == which) {
                    rules |= RULES_THAT_LOOK_AT_FIRST << (4 * link);
                }
                if (rows[ROW * link + SECOND_CLASS] == which) {
                    rules |= RULES_THAT_LOOK_AT_SECOND << (4 * link);
                }
            }
            if (parents[which] != NO_PARENT) {
                rules |= 1L << (RULES_OF_PARENTS + parents[which]);
            }
            return rules;
        }

        int classAsked(int rule) {
            if (rule >= RULES_OF_WANTS) {
                return rule - RULES_OF_WANTS;
            }
            if (rule >= RULES_OF_PARENTS) {
                return rule - RULES_OF_PARENTS;
            }
            return rows[ROW * (rule / 4) + (rule % 2 == 0 ? SECOND_CLASS : FIRST_CLASS)];
        }

        /** What the rule asks for, with more than MOST_POPULATION for too many. */
        int numberAsked(int rule, int[] people) {
            if (rule >= RULES_OF_WANTS) {
                return wants[rule - RULES_OF_WANTS];
            }
            if (rule >= RULES_OF_PARENTS) {
                int sum = 0;
                for (int child = 0; child < classes; child++) {
                    sum += parents[child] == rule - RULES_OF_PARENTS ? people[child] : 0;
                }
                return sum;
            }
            int place = ROW * (rule / 4);
            boolean ofSecond = rule % 2 == 0;
            int others = people[rows[place + (ofSecond ? FIRST_CLASS : SECOND_CLASS)]];
            int low = rows[place + (ofSecond ? SECOND_LEAST : FIRST_LEAST)];
            if (others == 0 || low == 0) {
                return 0;
            }
            if (rule % 4 >= 2) {
                return low;
            }
            int high = rows[place + (ofSecond ? FIRST_MOST : SECOND_MOST)];
            if (high == 0) {
                return TOO_MANY;
            }
            int factor = high == NO_LIMIT ? NO_LIMIT_AS_FACTOR : high;
            return (others * low + factor - 1) / factor;
        }

        /** A rule is kept by all numbers from that on for which it asks, and by no other. */
        boolean isKept(int rule) {
            return held[classAsked(rule)] >= numberAsked(rule, held);
        }

        boolean keepsRulesOf(int link) {
            for (int rule = 4 * link; rule < 4 * link + 4; rule++) {
                if (!isKept(rule)) {
                    return false;
                }
            }
            return true;
        }

        int firstRuleBroken() {
            for (int rule = 0; rule <= LAST_RULE; rule++) {
                if (hasRule(rule) && !isKept(rule)) {
                    return rule;
                }
            }
            return ALL_ARE_KEPT;
        }

        int heldAt(int link, int end) {
            return held[rows[ROW * link + FIRST_CLASS + end]];
        }

        int pairsOf(int link) {
            int byFirst = heldAt(link, 0) * rows[ROW * link + SECOND_LEAST];
            int bySecond = heldAt(link, 1) * rows[ROW * link + FIRST_LEAST];
            return Math.max(byFirst, bySecond);
        }
    }

    /** The least populations of a diagram, when they have been sought. */
    private static final class Populations {
        // in each round but the first one, a rule is due because a class was given more before
        static final int MOST_ROUNDS = MOST_CLASSES * MOST_POPULATION + 1;

        final int[] people = new int[MOST_CLASSES];
        boolean exist = false;
        // rules, as bits: those that gave a class more, or asked for too many
        long givers = 0L;
        // those that look at a class which has grown since they were asked
        long due = 0L;
        // of each class: those that look at it, and so can ask for more when it grows
        final long[] lookers = new long[MOST_CLASSES];

        boolean find(Diagram diagram, int[] wants) {
            begin(diagram, wants);
            for (int round = 0; round < MOST_ROUNDS && exist && due != 0L; round++) {
                for (int rule = 0; rule < RULES_OF_WANTS && due >> rule != 0L; rule++) {
                    if ((due >> rule & 1L) != 0L) {
                        due &= ~(1L << rule);
                        ask(rule, diagram);
                    }
                }
            }
            return exist;
        }

        private void begin(Diagram diagram, int[] wants) {
            exist = true;
            givers = 0L;
            due = 0L;
            for (int which = 0; which < diagram.classes; which++) {
                people[which] = wants[which];
                lookers[which] = diagram.rulesThatLookAt(which);
                if (people[which] > 0) {
                    due |= lookers[which];
                }
            }
        }

        private void ask(int rule, Diagram diagram) {
            int which = diagram.classAsked(rule);
            int asked = diagram.numberAsked(rule, people);
            if (asked <= people[which]) {
                return;
            }
            givers |= 1L << rule;
            if (asked > MOST_POPULATION) {
                exist = false;
                return;
            }
            people[which] = asked;
            due |= lookers[which];
        }

        boolean areTheSame(int[] others, int classes) {
            for (int which = 0; which < classes; which++) {
                if (people[which] != others[which]) {
                    return false;
                }
            }
            return true;
        }
    }

    /** The latest states, in a ring, so that none has to be moved when the oldest one goes. */
    private static final class History {
        final Diagram[] states = new Diagram[MOST_STATES];
        int oldest = 0;
        int length = 0;

        History() {
            for (int place = 0; place < MOST_STATES; place++) {
                states[place] = new Diagram();
            }
        }

        void record(Diagram state) {
            if (length == MOST_STATES) {
                oldest = (oldest + 1) % MOST_STATES;
                length--;
            }
            states[(oldest + length) % MOST_STATES].become(state);
            length++;
        }

        void takeLatest(Diagram into) {
            length--;
            into.become(states[(oldest + length) % MOST_STATES]);
        }
    }

    /** The text, and the link that was read from it. */
    private static final class LinkText {
        final char[] characters = new char[MOST_CHARACTERS];
        int length = 0;
        final int[] row = new int[ROW];
        // where the reading stands: at the fault, if it could not go on
        int place = 0;

        boolean isLink() {
            place = 0;
            return takeEnd(FIRST_CLASS, FIRST_LEAST) && takeSign('-')
                    && takeEnd(SECOND_CLASS, SECOND_LEAST) && place == length;
        }

        private boolean takeEnd(int classInRow, int leastInRow) {
            return takeClass(classInRow) && takeSign(':') && takeNumber(leastInRow)
                    && takeSign('.') && takeSign('.') && takeMost(leastInRow + 1);
        }

        private boolean takeClass(int inRow) {
            if (!isDigitHere()) {
                return false;
            }
            row[inRow] = characters[place] - '0';
            place++;
            return true;
        }

        private boolean takeNumber(int inRow) {
            if (!takeClass(inRow)) {
                return false;
            }
            if (row[inRow] != 0 && isDigitHere()) {
                int both = 10 * row[inRow] + characters[place] - '0';
                if (both <= LARGEST_COUNT) {
                    row[inRow] = both;
                    place++;
                }
            }
            return true;
        }

        private boolean takeMost(int inRow) {
            if (takeSign('*')) {
                row[inRow] = NO_LIMIT;
                return true;
            }
            if (!takeNumber(inRow)) {
                return false;
            }
            if (row[inRow] < row[inRow - 1]) {
                place--;
                return false;
            }
            return true;
        }

        private boolean takeSign(char sign) {
            if (place >= length || characters[place] != sign) {
                return false;
            }
            place++;
            return true;
        }

        private boolean isDigitHere() {
            return place < length && characters[place] >= '0' && characters[place] <= '9';
        }
    }
}
