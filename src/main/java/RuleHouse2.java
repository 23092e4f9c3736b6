/** A house of rules, their classes and the targets that are run by them; see README.md. */
public final class RuleHouse2 {
    public static final int NONE = -1;

    private static final int UNKNOWN = -1;
    private static final int OUTSIDE = -2;
    private static final int WRONG_STATE = -3;
    private static final int NO_ROOM = -4;

    private static final int NO_FAILURE = 0;
    private static final int START = 1;
    private static final int DOUBLE = 2;
    private static final int DIVIDE = 3;
    private static final int UNDECLARED = 4;
    private static final int STEPS = 5;
    private static final int NEED = 6;
    private static final int ROOM = 7;

    private static final int MOST_STEPS = 65536;
    private static final int MOST_RULES = 16;
    private static final int MOST_TARGETS = 40;
    private static final int MOST_ACTIONS = 400;
    private static final int MOST_HANDLES = 40;
    private static final int LAST_EDITION = 3;
    private static final int LAST_DOES = 255;
    private static final int MOST_ASKED_ACTIONS = 20;

    private static final int BITS = 8;
    private static final int BEFORE_BITS = 8;

    private static final int ATTRIBUTES = 4;
    private static final int AMOUNT = 0;
    private static final int DIVISOR = 1;
    private static final int NEEDED = 2;
    private static final int MINUS = 3;

    private static final int PROVIDERS = 3;
    private static final int VALUE = 0;
    private static final int QUOTIENT = 1;
    private static final int COUNTED = 2;

    private final int stepsAllowed;
    // A rule is no more than its class here: rules of one edition and does share one entry.
    private final RuleClass[] classOfRule = new RuleClass[MOST_RULES];
    private int ruleCount = 0;
    private int madeCount = 0;
    private final Target[] targets = new Target[MOST_TARGETS];
    private int targetCount = 0;
    private final int[] actionTarget = new int[MOST_ACTIONS];
    private final int[] actionNumber = new int[MOST_ACTIONS];
    private int actionCount = 0;
    private int handleCount = 0;

    public RuleHouse2(int steps) {
        stepsAllowed = Math.min(Math.max(steps, 0), MOST_STEPS);
    }

    public int rule(int edition, int does, boolean startFails) {
        if (!isWithin(edition, LAST_EDITION) || !isWithin(does, LAST_DOES)) {
            return OUTSIDE;
        }
        if (ruleCount >= MOST_RULES) {
            return NO_ROOM;
        }
        RuleClass known = findClass(edition, does);
        classOfRule[ruleCount] = known != null ? known : new RuleClass(edition, does, startFails);
        ruleCount++;
        return ruleCount - 1;
    }

    public int make(int rule) {
        RuleClass ruleClass = classAt(rule);
        if (ruleClass == null || !ensureMade(ruleClass)) {
            return NONE;
        }
        return ruleClass.number;
    }

    public int attribute(int target, int name, int v) {
        Target asked = targetAt(target);
        if (asked == null || !isWithin(name, ATTRIBUTES - 1)) {
            return UNKNOWN;
        }
        if (!mayBecome(asked, name, v)) {
            return OUTSIDE;
        }
        if (asked.wasRun) {
            return WRONG_STATE;
        }
        int before = asked.attributes[name];
        asked.attributes[name] = v;
        return before;
    }

    public int target(int rule) {
        RuleClass ruleClass = classAt(rule);
        if (ruleClass == null) {
            return UNKNOWN;
        }
        if (targetCount >= MOST_TARGETS) {
            return NO_ROOM;
        }
        targets[targetCount] = new Target(targetCount, ruleClass);
        targetCount++;
        return targetCount - 1;
    }

    public int run(int target) {
        Target asked = targetAt(target);
        if (asked == null) {
            return UNKNOWN;
        }
        runOnce(asked, 0);
        return asked.failure == NO_FAILURE ? asked.actions : -10 - asked.failure;
    }

    public int action(int i, int what) {
        if (!isWithin(i, actionCount - 1)) {
            return UNKNOWN;
        }
        switch (what) {
            case 0:
                return actionTarget[i];
            case 1:
                return actionNumber[i];
            case 2:
                return digest(actionTarget[i], actionNumber[i]);
            default:
                return OUTSIDE;
        }
    }

    public int provider(int target, int name) {
        Target asked = targetAt(target);
        if (asked == null || !isWithin(name, PROVIDERS - 1) || !asked.has[name]) {
            return 0;
        }
        return asked.providers[name];
    }

    public int failed(int target, int what) {
        Target asked = targetAt(target);
        if (asked == null) {
            return UNKNOWN;
        }
        if (!isWithin(what, 2)) {
            return OUTSIDE;
        }
        if (!asked.wasRun) {
            return WRONG_STATE;
        }
        if (asked.failure == NO_FAILURE) {
            return 0;
        }
        switch (what) {
            case 0:
                return asked.failure;
            case 1:
                return asked.failedBit;
            default:
                return asked.failureBegan + 1;
        }
    }

    public long cell(int rule) {
        RuleClass ruleClass = classAt(rule);
        if (ruleClass == null || !ruleClass.made) {
            return NONE;
        }
        return ruleClass.cell;
    }

    public boolean same(int a, int b) {
        RuleClass one = classAt(a);
        RuleClass other = classAt(b);
        return one != null && other != null && one.isOf(other.edition, other.does);
    }

    public long divide(int rule, long a, long by) throws ArithmeticException {
        RuleClass ruleClass = classAt(rule);
        if (ruleClass == null || !ensureMade(ruleClass)) {
            return 0;
        }
        ruleClass.cell++;
        if (by == 0) {
            throw new ArithmeticException("divided by 0");
        }
        return a / by;
    }

    public int handle(int kept) throws IllegalStateException {
        if (isWithin(kept, handleCount - 1)) {
            throw new IllegalStateException("the call of this handle has ended");
        }
        return NONE;
    }

    private static boolean isWithin(int n, int last) {
        return n >= 0 && n <= last;
    }

    private RuleClass classAt(int rule) {
        return isWithin(rule, ruleCount - 1) ? classOfRule[rule] : null;
    }

    private Target targetAt(int number) {
        return isWithin(number, targetCount - 1) ? targets[number] : null;
    }

    private RuleClass findClass(int edition, int does) {
        for (int i = 0; i < ruleCount; i++) {
            RuleClass known = classAt(i);
            if (known != null && known.isOf(edition, does)) {
                return known;
            }
        }
        return null;
    }

    private boolean ensureMade(RuleClass ruleClass) {
        if (!ruleClass.made && !ruleClass.startFails) {
            ruleClass.made = true;
            ruleClass.number = madeCount;
            madeCount++;
        }
        return ruleClass.made;
    }

    private static boolean mayBecome(Target asked, int name, int v) {
        switch (name) {
            case AMOUNT:
                return isWithin(v, MOST_ASKED_ACTIONS);
            case NEEDED:
                // Only targets ahead of it, so no target ever needs itself, not by others either.
                return isWithin(v, asked.number);
            case MINUS:
                return isWithin(v, 1);
            default:
                return true;
        }
    }

    private int digest(int number, int among) {
        Target owner = targetAt(number);
        if (owner == null) {
            return 0;
        }
        RuleClass ruleClass = owner.ruleClass;
        return ((ruleClass.edition * 31 + ruleClass.does) * 31 + number) * 31 + among;
    }

    private void runOnce(Target asked, int depth) {
        if (asked.wasRun || depth >= MOST_TARGETS) {
            return;
        }
        asked.wasRun = true;
        if (!ensureMade(asked.ruleClass)) {
            asked.fail(START, BEFORE_BITS, asked.number);
            return;
        }
        Target needed = targetAt(asked.attributes[NEEDED] - 1);
        if (needed != null) {
            runOnce(needed, depth + 1);
            if (needed.failure != NO_FAILURE) {
                asked.fail(NEED, BEFORE_BITS, needed.failureBegan);
                return;
            }
        }
        doBits(asked, needed);
    }

    private void doBits(Target asked, Target needed) {
        int actionsBefore = actionCount;
        for (int bit = 0; bit < BITS; bit++) {
            if (((asked.ruleClass.does >> bit) & 1) == 0) {
                continue;
            }
            int failure = takesStep(asked) ? doBit(asked, needed, bit) : STEPS;
            if (failure != NO_FAILURE) {
                actionCount = actionsBefore;
                asked.fail(failure, bit, asked.number);
                return;
            }
        }
    }

    private boolean takesStep(Target asked) {
        if (asked.steps >= stepsAllowed) {
            return false;
        }
        asked.steps++;
        return true;
    }

    private int doBit(Target asked, Target needed, int bit) {
        switch (bit) {
            case 0:
            case 1:
                return declareOutput(asked);
            case 2:
                return addActions(asked);
            case 3:
                return giveQuotient(asked);
            case 4:
                return giveOneMore(asked, needed);
            case 5:
                return countInCell(asked);
            case 6:
                return giveAmount(asked);
            default:
                return keepHandle();
        }
    }

    private static int declareOutput(Target asked) {
        if (asked.outputDeclared) {
            return DOUBLE;
        }
        asked.outputDeclared = true;
        return NO_FAILURE;
    }

    private int addActions(Target asked) {
        int amount = asked.attributes[AMOUNT];
        for (int i = 0; i < amount; i++) {
            if (!takesStep(asked)) {
                return STEPS;
            }
            if (actionCount >= MOST_ACTIONS) {
                return ROOM;
            }
            actionTarget[actionCount] = asked.number;
            actionNumber[actionCount] = i;
            actionCount++;
            asked.actions++;
        }
        return NO_FAILURE;
    }

    private static int giveQuotient(Target asked) {
        int divisor = asked.attributes[DIVISOR];
        if (divisor == 0) {
            return DIVIDE;
        }
        asked.give(QUOTIENT, asked.attributes[AMOUNT] / divisor);
        return NO_FAILURE;
    }

    private static int giveOneMore(Target asked, Target needed) {
        if (needed == null || !needed.has[VALUE]) {
            return UNDECLARED;
        }
        asked.give(VALUE, needed.providers[VALUE] + 1);
        return NO_FAILURE;
    }

    private static int countInCell(Target asked) {
        asked.ruleClass.cell++;
        asked.give(COUNTED, (int) asked.ruleClass.cell);
        return NO_FAILURE;
    }

    private static int giveAmount(Target asked) {
        int amount = asked.attributes[AMOUNT];
        asked.give(VALUE, asked.attributes[MINUS] == 1 ? -amount : amount);
        return NO_FAILURE;
    }

    private int keepHandle() {
        if (handleCount < MOST_HANDLES) {
            handleCount++;
        }
        return NO_FAILURE;
    }

    /** What all rules of one edition and does share, made or not. */
    private static final class RuleClass {
        final int edition;
        final int does;
        final boolean startFails;
        boolean made = false;
        int number = NONE;
        long cell = 0;

        RuleClass(int edition, int does, boolean startFails) {
            this.edition = edition;
            this.does = does;
            this.startFails = startFails;
        }

        boolean isOf(int otherEdition, int otherDoes) {
            return edition == otherEdition && does == otherDoes;
        }
    }

    /** A target and what its one run has left. */
    private static final class Target {
        final int number;
        final RuleClass ruleClass;
        final int[] attributes = new int[ATTRIBUTES];
        final int[] providers = new int[PROVIDERS];
        final boolean[] has = new boolean[PROVIDERS];
        boolean wasRun = false;
        boolean outputDeclared = false;
        int steps = 0;
        int actions = 0;
        int failure = NO_FAILURE;
        int failedBit = 0;
        int failureBegan = 0;

        Target(int number, RuleClass ruleClass) {
            this.number = number;
            this.ruleClass = ruleClass;
        }

        void give(int name, int v) {
            providers[name] = v;
            has[name] = true;
        }

        void fail(int why, int bit, int began) {
            failure = why;
            failedBit = bit;
            failureBegan = began;
            actions = 0;
            for (int i = 0; i < PROVIDERS; i++) {
                has[i] = false;
            }
        }
    }
}
