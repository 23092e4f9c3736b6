/** One method for each sentence of 'Terms' that names a boundary case; each quotes its sentence. */
public final class RuleHouse2TermsEdgesTest {
    private static final int DECLARE = 1;
    private static final int DECLARE_AGAIN = 2;
    private static final int ACT = 4;
    private static final int QUOTIENT = 8;
    private static final int ONE_MORE = 16;
    private static final int COUNT = 32;
    private static final int AMOUNT = 64;
    private static final int KEEP = 128;

    private static final int START = 1;
    private static final int DOUBLE = 2;
    private static final int DIVIDE = 3;
    private static final int UNDECLARED = 4;
    private static final int STEPS = 5;
    private static final int NEED = 6;
    private static final int ROOM = 7;

    private static final int LEAST = Integer.MIN_VALUE;
    private static final int MOST = Integer.MAX_VALUE;

    private static String sentence = "";
    private static int sentences = 0;
    private static int wrong = 0;

    public static void main(String[] args) {
        atMost512Calls();
        noneIsMinus1();
        rules();
        classes();
        targets();
        attributes();
        runs();
        steps();
        bits();
        failures();
        actions();
        System.out.println(wrong == 0 ? sentences + " sentences hold" : wrong + " answers are not as due");
        if (wrong != 0) {
            System.exit(1);
        }
    }

    private static void rules() {
        atMost16Rules();
        edition0To3();
        does0To255();
    }

    private static void classes() {
        oneEditionAndDoesIsOneClass();
        startIsToldByTheFirst();
        classesAreMadeOnce();
        classesAreNumberedAsMade();
        cellIs0AtFirst();
        noClassHoweverOftenAsked();
    }

    private static void targets() {
        atMost40Targets();
        aTargetIsRunOnce();
        providersThatItHasOrHasnt();
    }

    private static void attributes() {
        attributesAre0AtFirst();
        attribute0Is0To20();
        attribute1IsAnyNumber();
        attribute2IsAnEarlierTarget();
        attribute3Is0Or1();
    }

    private static void runs() {
        theClassIsMadeIfItWasnt();
        startFailureWithoutAClass();
        theNeededIsRunIfItWasnt();
        needIfThatFailedNowOrBefore();
        needThrough40Targets();
        bitsThatAreSetFrom0To7();
    }

    private static void steps() {
        eachBitAndActionIsAStep();
        stepsAheadOfTheBit();
        stepsAheadOfTheAction();
        stepsOfEachTargetByItself();
    }

    private static void bits() {
        doubleIfDeclaredBefore();
        asManyActionsAsAttribute0();
        roomIfThereAre400();
        roomBehindTheStep();
        divideIf0();
        undeclaredIfNoneOrHasntIt();
        oneMoreThanTheNeeded();
        cellBecomesOneMore();
        provider0BecomesAttribute0();
        handlesAtMost40();
    }

    private static void failures() {
        aFailureEndsThat();
        actionsAndProvidersAreGone();
        cellsAndHandlesStay();
    }

    private static void actions() {
        actionsAreNumberedAsTheyCame();
        goneActionsAreLeftOut();
        digestOfAnAction();
    }

    private static void says(String text) {
        sentence = text;
        sentences++;
    }

    private static void due(String call, long got, long want) {
        if (got != want) {
            wrong++;
            System.out.println("'" + sentence + "': " + call + " answered " + got + ", due is " + want);
        }
    }

    private static void dueHandle(RuleHouse2 house, int kept, boolean isThere) {
        int thrown = 0;
        try {
            due("handle " + kept, house.handle(kept), RuleHouse2.NONE);
        } catch (IllegalStateException e) {
            thrown = 1;
        }
        due("handle " + kept + " throws", thrown, isThere ? 1 : 0);
    }

    private static void dueFailure(RuleHouse2 house, int target, int failure, int bit, int began) {
        due("run " + target, house.run(target), -10 - failure);
        due("failed " + target + ", 0", house.failed(target, 0), failure);
        due("failed " + target + ", 1", house.failed(target, 1), bit);
        due("failed " + target + ", 2", house.failed(target, 2), began + 1);
    }

    private static void dueActions(RuleHouse2 house, int count) {
        due("action " + (count - 1), house.action(count - 1, 0) == -1 ? 0 : 1, count == 0 ? 0 : 1);
        due("action " + count, house.action(count, 0), -1);
    }

    /** A new target of a new rule of edition 0 with attributes 0, 1 and 2. */
    private static int newTarget(RuleHouse2 house, int does, int amount, int divisor, int needed) {
        return targetOf(house, house.rule(0, does, false), amount, divisor, needed);
    }

    private static int targetOf(RuleHouse2 house, int rule, int amount, int divisor, int needed) {
        int target = house.target(rule);
        house.attribute(target, 0, amount);
        house.attribute(target, 1, divisor);
        house.attribute(target, 2, needed);
        return target;
    }

    private static RuleHouse2 houseOf(int steps, int does, int targets) {
        RuleHouse2 house = new RuleHouse2(steps);
        house.rule(0, does, false);
        for (int i = 0; i < targets; i++) {
            house.target(0);
        }
        return house;
    }

    /** A house whose targets 0 .. 19 have acted: rule 0 acts, and there are so many actions, at most 400. */
    private static RuleHouse2 houseWithActions(int steps, int actions) {
        RuleHouse2 house = houseOf(steps, ACT, 20);
        for (int i = 0; i < 20; i++) {
            house.attribute(i, 0, Math.max(0, Math.min(20, actions - 20 * i)));
            house.run(i);
        }
        return house;
    }

    private static void atMost512Calls() {
        says("An object is used for at most 512 calls after it has been made");
        RuleHouse2 house = new RuleHouse2(0);
        house.rule(0, 0, false);
        for (int i = 0; i < 510; i++) {
            house.divide(0, 1, 1);
        }
        due("the 512th call", house.cell(0), 510);
        house = houseOf(9, 0, 40);
        for (int call = 41; call < 511; call++) {
            due("call " + call, house.target(0), -4);
        }
        due("the 512th call", house.run(39), 0);
    }

    private static void noneIsMinus1() {
        says("`NONE = -1`: None");
        due("NONE", RuleHouse2.NONE, -1);
    }

    private static void atMost16Rules() {
        says("RULES, at most 16, numbered from 0");
        RuleHouse2 house = new RuleHouse2(9);
        for (int i = 0; i < 16; i++) {
            due("rule", house.rule(0, i, false), i);
        }
        due("a 17th rule", house.rule(1, 0, false), -4);
        due("a 17th rule of a known class", house.rule(0, 0, false), -4);
        due("the 16th is there", house.make(15), 0);
        due("the 17th is not", house.make(16), -1);
        RuleHouse2 alike = new RuleHouse2(9);
        for (int i = 0; i < 16; i++) {
            due("rule of one class", alike.rule(3, 255, false), i);
        }
        due("a 17th rule of one class", alike.rule(3, 255, false), -4);
    }

    private static void edition0To3() {
        says("have an EDITION 0 .. 3");
        RuleHouse2 house = new RuleHouse2(9);
        int[] outside = {-1, 4, 255, LEAST, MOST};
        for (int edition : outside) {
            due("edition " + edition, house.rule(edition, 7, false), -2);
        }
        for (int edition = 0; edition < 4; edition++) {
            due("edition " + edition, house.rule(edition, 7, false), edition);
        }
    }

    private static void does0To255() {
        says("and what they do, DOES, 0 .. 255");
        RuleHouse2 house = new RuleHouse2(9);
        int[] outside = {-1, 256, LEAST, MOST};
        for (int does : outside) {
            due("does " + does, house.rule(2, does, false), -2);
        }
        due("does 0", house.rule(2, 0, false), 0);
        due("does 255", house.rule(2, 255, false), 1);
    }

    private static void oneEditionAndDoesIsOneClass() {
        says("Rules of one EDITION and DOES are of one CLASS");
        RuleHouse2 house = new RuleHouse2(9);
        house.rule(1, 31, false);
        house.rule(1, 31, false);
        house.rule(2, 31, false);
        house.rule(1, 30, false);
        // Edition * 31 + does is the same for this and the first, as it is in the digest.
        house.rule(2, 0, false);
        due("class of the first", house.make(0), 0);
        due("class of the second", house.make(1), 0);
        due("another edition", house.make(2), 1);
        due("another does", house.make(3), 2);
        due("another of both", house.make(4), 3);
        house.divide(1, 1, 1);
        due("cell of the first", house.cell(0), 1);
        for (int i = 2; i < 5; i++) {
            due("cell of rule " + i, house.cell(i), 0);
        }
    }

    private static void startIsToldByTheFirst() {
        says("whether its START fails is told by the first of these");
        RuleHouse2 house = new RuleHouse2(9);
        due("a refused rule tells nothing", house.rule(4, 5, true), -2);
        house.rule(0, 5, false);
        house.rule(0, 5, true);
        house.rule(1, 5, true);
        house.rule(1, 5, false);
        house.rule(2, 5, false);
        due("told that it fails", house.make(3), -1);
        due("told that it fails", house.make(2), -1);
        due("told that it does not", house.make(1), 0);
        due("told that it does not", house.make(0), 0);
        due("another edition is told by itself", house.make(4), 1);
        house.rule(0, 5, true);
        due("a rule behind the making", house.make(5), 0);
        house.rule(1, 5, false);
        due("a rule behind a failed making", house.make(6), -1);
    }

    private static void classesAreMadeOnce() {
        says("CLASSES are MADE once");
        RuleHouse2 house = houseOf(9, COUNT, 2);
        due("make", house.make(0), 0);
        house.divide(0, 1, 1);
        due("make again", house.make(0), 0);
        due("the cell stays", house.cell(0), 1);
        house.run(0);
        house.rule(0, COUNT, false);
        due("make by another rule", house.make(1), 0);
        due("the cell stays", house.cell(1), 2);
        house.rule(3, 0, false);
        due("the next class", house.make(2), 1);
    }

    private static void classesAreNumberedAsMade() {
        says("numbered from 0 as they are MADE");
        RuleHouse2 house = new RuleHouse2(9);
        for (int i = 0; i < 16; i++) {
            house.rule(i % 4, i, i == 7);
        }
        for (int i = 15; i > 7; i--) {
            due("make " + i, house.make(i), 15 - i);
        }
        due("a failed START takes no number", house.make(7), -1);
        house.run(house.target(3));
        house.divide(2, 1, 1);
        due("made by the run", house.make(3), 8);
        due("made by the division", house.make(2), 9);
        due("the next", house.make(6), 10);
    }

    private static void cellIs0AtFirst() {
        says("with a CELL of 0");
        RuleHouse2 house = houseOf(9, 0, 1);
        due("not made", house.cell(0), -1);
        house.run(0);
        due("made by a run", house.cell(0), 0);
        house.rule(1, COUNT, false);
        house.make(1);
        due("made", house.cell(1), 0);
    }

    private static void noClassHoweverOftenAsked() {
        says("if the START fails, there is no class, however often it is asked for");
        RuleHouse2 house = new RuleHouse2(9);
        house.rule(0, COUNT + KEEP, true);
        for (int i = 0; i < 3; i++) {
            due("make", house.make(0), -1);
            due("target", house.target(0), i);
            dueFailure(house, i, START, 8, i);
            due("divide", house.divide(0, 6, 2), 0);
            due("cell", house.cell(0), -1);
        }
        dueHandle(house, 0, false);
    }

    private static void atMost40Targets() {
        says("TARGETS, at most 40, numbered from 0");
        RuleHouse2 house = new RuleHouse2(9);
        house.rule(0, 0, false);
        house.rule(1, 0, false);
        for (int i = 0; i < 40; i++) {
            due("target", house.target(i % 2), i);
        }
        due("a 41st target", house.target(0), -4);
        due("a 41st target", house.target(1), -4);
        due("the 40th is there", house.run(39), 0);
        due("the 41st is not", house.run(40), -1);
        due("a run makes no room", house.target(0), -4);
    }

    private static void aTargetIsRunOnce() {
        says("A TARGET is run once");
        RuleHouse2 house = houseOf(9, ACT + COUNT + AMOUNT + KEEP, 3);
        house.attribute(0, 0, 2);
        house.attribute(1, 2, 1);
        house.attribute(2, 2, 1);
        for (int i = 0; i < 3; i++) {
            due("run 0", house.run(0), 2);
        }
        due("run 1", house.run(1), 0);
        due("run 2", house.run(2), 0);
        due("run 0 behind those that need it", house.run(0), 2);
        due("a cell for each target", house.cell(0), 3);
        due("counted once", house.provider(0, 2), 1);
        dueActions(house, 2);
        dueHandle(house, 2, true);
        dueHandle(house, 3, false);
        int failing = newTarget(house, COUNT + AMOUNT + KEEP + QUOTIENT + ACT, 9, 0, 0);
        dueFailure(house, failing, STEPS, 2, failing);
        dueFailure(house, failing, STEPS, 2, failing);
    }

    private static void providersThatItHasOrHasnt() {
        says("PROVIDERS 0 .. 2 are numbers that it has then, or hasn't");
        RuleHouse2 house = new RuleHouse2(9);
        int has = newTarget(house, AMOUNT, 0, 0, 0);
        int hasnt = newTarget(house, QUOTIENT + COUNT, 0, 1, 0);
        house.run(has);
        house.run(hasnt);
        due("0 that it has", house.provider(has, 0), 0);
        due("0 that it hasn't", house.provider(hasnt, 0), 0);
        house.rule(1, ONE_MORE, false);
        due("behind one that has it", house.run(targetOf(house, 2, 0, 0, has + 1)), 0);
        dueFailure(house, targetOf(house, 2, 0, 0, hasnt + 1), UNDECLARED, 4, 3);
    }

    private static void attributesAre0AtFirst() {
        says("four ATTRIBUTES, 0 at first");
        RuleHouse2 house = houseOf(9, 0, 3);
        for (int target = 1; target < 3; target++) {
            for (int name = 0; name < 4; name++) {
                due("attribute " + name, house.attribute(target, name, 1), 0);
                due("attribute " + name + " then", house.attribute(target, name, 0), 1);
            }
        }
        due("there is no name 4", house.attribute(1, 4, 0), -1);
        due("there is no name -1", house.attribute(1, -1, 0), -1);
    }

    private static void attribute0Is0To20() {
        says("0 a number 0 .. 20");
        RuleHouse2 house = houseOf(9, 0, 1);
        due("20", house.attribute(0, 0, 20), 0);
        int[] outside = {-1, 21, LEAST, MOST};
        for (int v : outside) {
            due("v " + v, house.attribute(0, 0, v), -2);
        }
        due("0", house.attribute(0, 0, 0), 20);
    }

    private static void attribute1IsAnyNumber() {
        says("1 any number");
        RuleHouse2 house = houseOf(9, 0, 1);
        int[] any = {LEAST, MOST, -1, 21, LEAST + 1, 0};
        int was = 0;
        for (int v : any) {
            due("v " + v, house.attribute(0, 1, v), was);
            was = v;
        }
    }

    private static void attribute2IsAnEarlierTarget() {
        says("2 the TARGET that it needs: its number and 1, less than or as great as the own number; 0 for none");
        RuleHouse2 house = houseOf(9, 0, 40);
        int[] numbers = {0, 1, 2, 38, 39};
        int[] outside = {-1, LEAST, 41, MOST};
        for (int own : numbers) {
            due("the own number, of " + own, house.attribute(own, 2, own), 0);
            due("one more, of " + own, house.attribute(own, 2, own + 1), -2);
            for (int v : outside) {
                due(v + ", of " + own, house.attribute(own, 2, v), -2);
            }
            due("none, of " + own, house.attribute(own, 2, 0), own);
        }
        for (int v = 1; v <= 39; v++) {
            due("each earlier one", house.attribute(39, 2, v), v - 1);
        }
        due("a later one that is there", house.attribute(5, 2, 7), -2);
    }

    private static void attribute3Is0Or1() {
        says("3 either 0 or 1");
        RuleHouse2 house = houseOf(9, 0, 1);
        due("1", house.attribute(0, 3, 1), 0);
        int[] outside = {-1, 2, LEAST, MOST};
        for (int v : outside) {
            due("v " + v, house.attribute(0, 3, v), -2);
        }
        due("0", house.attribute(0, 3, 0), 1);
    }

    private static void theClassIsMadeIfItWasnt() {
        says("the CLASS of its RULE is MADE, if it wasn't");
        RuleHouse2 house = houseOf(0, DECLARE, 1);
        house.rule(1, 0, false);
        house.rule(2, 0, false);
        house.target(1);
        house.make(1);
        due("run of a class that was made", house.run(1), 0);
        due("its number stays", house.make(1), 0);
        dueFailure(house, 0, STEPS, 0, 0);
        due("made though the run failed", house.make(0), 1);
        due("made though the needed failed", house.attribute(house.target(2), 2, 1), 0);
        dueFailure(house, 2, NEED, 8, 0);
        due("its cell", house.cell(2), 0);
        due("its number", house.make(2), 2);
    }

    private static void startFailureWithoutAClass() {
        says("START FAILURE (1) without one");
        RuleHouse2 house = houseOf(0, 0, 1);
        house.rule(3, 255, true);
        house.target(1);
        house.attribute(1, 2, 1);
        dueFailure(house, 1, START, 8, 1);
        due("the needed was not run", house.failed(0, 0), -3);
        due("nor was its class made", house.cell(0), -1);
        RuleHouse2 both = houseOf(0, DECLARE, 1);
        both.rule(3, 255, true);
        both.target(1);
        both.attribute(1, 2, 1);
        both.run(0);
        dueFailure(both, 1, START, 8, 1);
    }

    private static void theNeededIsRunIfItWasnt() {
        says("The TARGET that it needs is RUN, if it wasn't");
        RuleHouse2 house = houseOf(9, ACT, 4);
        for (int i = 0; i < 4; i++) {
            house.attribute(i, 0, i + 1);
        }
        house.attribute(1, 2, 1);
        house.attribute(3, 2, 2);
        due("run 3", house.run(3), 4);
        due("the needed", house.failed(1, 0), 0);
        due("needed by others", house.failed(0, 0), 0);
        due("not needed", house.failed(2, 0), -3);
        dueActions(house, 7);
        due("the first that acts", house.action(0, 0), 0);
        due("the next", house.action(1, 0), 1);
        due("the last", house.action(3, 0), 3);
        due("run before", house.run(0), 1);
        dueActions(house, 7);
    }

    private static void needIfThatFailedNowOrBefore() {
        says("NEED (6) if that failed, now or before");
        RuleHouse2 house = new RuleHouse2(9);
        int bad = newTarget(house, QUOTIENT, 0, 0, 0);
        int now = newTarget(house, COUNT, 0, 0, bad + 1);
        int before = newTarget(house, AMOUNT, 0, 0, bad + 1);
        int behindNeed = newTarget(house, KEEP, 0, 0, now + 1);
        dueFailure(house, now, NEED, 8, bad);
        dueFailure(house, bad, DIVIDE, 3, bad);
        dueFailure(house, before, NEED, 8, bad);
        dueFailure(house, behindNeed, NEED, 8, bad);
        due("no bit was done", house.cell(1), 0);
        dueHandle(house, 0, false);
        house.rule(2, 0, true);
        int noStart = targetOf(house, 4, 0, 0, 0);
        dueFailure(house, newTarget(house, 0, 0, 0, noStart + 1), NEED, 8, noStart);
    }

    private static void needThrough40Targets() {
        says("NEED (6) if that failed .. or needs by others");
        RuleHouse2 house = houseOf(9, AMOUNT, 0);
        newTarget(house, DECLARE + DECLARE_AGAIN, 0, 0, 0);
        for (int i = 1; i < 40; i++) {
            house.attribute(house.target(0), 2, i);
        }
        dueFailure(house, 39, NEED, 8, 0);
        for (int i = 1; i < 40; i++) {
            dueFailure(house, i, NEED, 8, 0);
        }
        dueFailure(house, 0, DOUBLE, 1, 0);
    }

    private static void bitsThatAreSetFrom0To7() {
        says("Then bits of DOES are done, from 0 to 7, those that are set");
        RuleHouse2 house = new RuleHouse2(0);
        due("none is set", house.run(newTarget(house, 0, 20, 0, 0)), 0);
        house = new RuleHouse2(30);
        int first = newTarget(house, AMOUNT, 9, 0, 0);
        int both = newTarget(house, ONE_MORE + AMOUNT, 3, 0, first + 1);
        house.run(both);
        due("6 behind 4", house.provider(both, 0), 3);
        dueFailure(house, newTarget(house, QUOTIENT + ONE_MORE, 0, 0, 0), DIVIDE, 3, 2);
        dueFailure(house, newTarget(house, DECLARE + DECLARE_AGAIN + QUOTIENT, 0, 0, 0), DOUBLE, 1, 3);
        int all = newTarget(house, 255 - DECLARE, 5, 2, first + 1);
        due("all but one", house.run(all), 5);
        due("6", house.provider(all, 0), 5);
        due("3", house.provider(all, 1), 2);
        due("5", house.provider(all, 2), 1);
        dueHandle(house, 0, true);
    }

    private static void eachBitAndActionIsAStep() {
        says("each is a STEP, each ACTION one more; one more than the house allows: STEPS (5)");
        int[] amounts = {0, 1, 20};
        for (int amount : amounts) {
            for (int does = 1; does < 256; does++) {
                if ((does & 3) != 3) {
                    dueSteps(does, amount);
                }
            }
        }
    }

    private static void dueSteps(int does, int amount) {
        int acts = (does & ACT) != 0 ? amount : 0;
        int needs = Integer.bitCount(does) + acts;
        int lastBit = 31 - Integer.numberOfLeadingZeros(does);
        RuleHouse2 enough = new RuleHouse2(needs);
        newTarget(enough, AMOUNT, 0, 0, 0);
        due("does " + does + " with " + needs + " steps", enough.run(newTarget(enough, does, amount, 1, 1)), acts);
        RuleHouse2 short1 = new RuleHouse2(needs - 1);
        if (needs == 1) {
            // The needed target would have no step either.
            dueFailure(short1, newTarget(short1, does, amount, 1, 0), STEPS, lastBit, 0);
            return;
        }
        newTarget(short1, AMOUNT, 0, 0, 0);
        dueFailure(short1, newTarget(short1, does, amount, 1, 1), STEPS, lastBit, 1);
    }

    private static void stepsAheadOfTheBit() {
        says("STEPS (5), ahead of it");
        RuleHouse2 house = new RuleHouse2(1);
        dueFailure(house, newTarget(house, DECLARE + DECLARE_AGAIN, 0, 0, 0), STEPS, 1, 0);
        dueFailure(house, newTarget(house, DECLARE + QUOTIENT, 0, 0, 0), STEPS, 3, 1);
        dueFailure(house, newTarget(house, DECLARE + ONE_MORE, 0, 0, 0), STEPS, 4, 2);
        dueFailure(house, newTarget(house, DECLARE + COUNT, 0, 0, 0), STEPS, 5, 3);
        due("no cell is counted", house.cell(3), 0);
        dueFailure(house, newTarget(house, DECLARE + KEEP, 0, 0, 0), STEPS, 7, 4);
        dueHandle(house, 0, false);
    }

    private static void stepsAheadOfTheAction() {
        says("each ACTION one more; one more than the house allows: STEPS (5), ahead of it");
        RuleHouse2 house = new RuleHouse2(21);
        due("20 actions are 21 steps", house.run(newTarget(house, ACT, 20, 0, 0)), 20);
        dueFailure(house, newTarget(house, DECLARE + ACT, 20, 0, 0), STEPS, 2, 1);
        dueActions(house, 20);
        due("19 actions are 21 steps", house.run(targetOf(house, 1, 19, 0, 0)), 19);
        dueActions(house, 39);
        RuleHouse2 single = new RuleHouse2(1);
        due("no action takes no step", single.run(newTarget(single, ACT, 0, 0, 0)), 0);
        dueFailure(single, targetOf(single, 0, 1, 0, 0), STEPS, 2, 1);
    }

    private static void stepsOfEachTargetByItself() {
        says("STEPS are counted for each TARGET by itself");
        RuleHouse2 house = houseOf(5, ACT, 40);
        for (int i = 0; i < 40; i++) {
            house.attribute(i, 0, 4);
            house.attribute(i, 2, i);
        }
        due("the last of a chain of 40", house.run(39), 4);
        due("the first of it", house.run(0), 4);
        dueActions(house, 160);
    }

    private static void doubleIfDeclaredBefore() {
        says("0 and 1: its output is declared: DOUBLE (2), if that was done before");
        RuleHouse2 house = houseOf(9, DECLARE, 2);
        due("bit 0", house.run(0), 0);
        due("bit 0 of another target", house.run(1), 0);
        due("bit 1 behind a needed that declared", house.run(newTarget(house, DECLARE_AGAIN, 0, 0, 1)), 0);
        dueFailure(house, newTarget(house, DECLARE + DECLARE_AGAIN, 0, 0, 1), DOUBLE, 1, 3);
        dueFailure(house, targetOf(house, 2, 0, 0, 0), DOUBLE, 1, 4);
    }

    private static void asManyActionsAsAttribute0() {
        says("2: as many ACTIONS as ATTRIBUTE 0 says");
        RuleHouse2 house = new RuleHouse2(30);
        house.rule(0, ACT, false);
        house.rule(0, AMOUNT, false);
        int[] amounts = {0, 1, 20};
        int all = 0;
        for (int amount : amounts) {
            due("amount " + amount, house.run(targetOf(house, 0, amount, 0, 0)), amount);
            all += amount;
            dueActions(house, all);
        }
        due("without the bit", house.run(targetOf(house, 1, 20, 0, 0)), 0);
        dueActions(house, 21);
    }

    private static void roomIfThereAre400() {
        says("ROOM (7), ahead of one .. if there are 400");
        RuleHouse2 house = houseWithActions(21, 399);
        dueActions(house, 399);
        dueFailure(house, targetOf(house, 0, 2, 0, 0), ROOM, 2, 20);
        dueActions(house, 399);
        due("the 400th", house.run(targetOf(house, 0, 1, 0, 0)), 1);
        dueActions(house, 400);
        due("its target", house.action(399, 0), 21);
        dueFailure(house, targetOf(house, 0, 1, 0, 0), ROOM, 2, 22);
        due("none is asked for", house.run(targetOf(house, 0, 0, 0, 0)), 0);
        dueFailure(house, newTarget(house, ACT + QUOTIENT, 1, 0, 0), ROOM, 2, 24);
        dueFailure(house, newTarget(house, DECLARE + DECLARE_AGAIN + ACT, 1, 0, 0), DOUBLE, 1, 25);
        dueFailure(house, newTarget(house, AMOUNT, 0, 0, 23), NEED, 8, 22);
        dueActions(house, 400);
    }

    private static void roomBehindTheStep() {
        says("ROOM (7), ahead of one, behind its STEP");
        RuleHouse2 house = houseWithActions(21, 381);
        dueFailure(house, newTarget(house, DECLARE + ACT, 20, 0, 0), STEPS, 2, 20);
        dueFailure(house, targetOf(house, 0, 20, 0, 0), ROOM, 2, 21);
        due("as many as there is room for", house.run(targetOf(house, 1, 19, 0, 0)), 19);
        dueActions(house, 400);
        dueFailure(house, targetOf(house, 1, 20, 0, 0), ROOM, 2, 23);
    }

    private static void divideIf0() {
        says("3: PROVIDER 1 becomes ATTRIBUTE 0 divided by ATTRIBUTE 1: DIVIDE (3), if that is 0");
        RuleHouse2 house = houseOf(9, QUOTIENT, 0);
        int[] amounts = {20, 20, 20, 20, 20, 20, 19, 0, 1, 20};
        int[] divisors = {1, -1, 20, 21, -3, 3, -20, -1, LEAST, MOST};
        int[] quotients = {20, -20, 1, 0, -6, 6, 0, 0, 0, 0};
        for (int i = 0; i < amounts.length; i++) {
            int target = targetOf(house, 0, amounts[i], divisors[i], 0);
            due("run", house.run(target), 0);
            due(amounts[i] + " / " + divisors[i], house.provider(target, 1), quotients[i]);
        }
        dueFailure(house, targetOf(house, 0, 20, 0, 0), DIVIDE, 3, 10);
        dueFailure(house, targetOf(house, 0, 0, 0, 0), DIVIDE, 3, 11);
        due("without the bit", house.run(newTarget(house, 255 - DECLARE - QUOTIENT - ONE_MORE, 2, 0, 0)), 2);
    }

    private static void undeclaredIfNoneOrHasntIt() {
        says("UNDECLARED (4), if it needs none, or that hasn't it");
        RuleHouse2 house = new RuleHouse2(9);
        house.rule(0, ONE_MORE, false);
        house.rule(0, QUOTIENT + COUNT, false);
        house.rule(0, ONE_MORE + AMOUNT, false);
        int hasnt = targetOf(house, 1, 4, 2, 0);
        dueFailure(house, targetOf(house, 0, 0, 0, 0), UNDECLARED, 4, 1);
        dueFailure(house, targetOf(house, 0, 0, 0, hasnt + 1), UNDECLARED, 4, 2);
        dueFailure(house, targetOf(house, 2, 5, 0, 0), UNDECLARED, 4, 3);
        due("bit 6 was not done", house.provider(3, 0), 0);
        due("the needed ran well", house.run(hasnt), 0);
        dueFailure(house, targetOf(house, 2, 5, 0, 4), NEED, 8, 3);
    }

    private static void oneMoreThanTheNeeded() {
        says("4: PROVIDER 0 becomes 1 more than PROVIDER 0 of the TARGET that it needs");
        RuleHouse2 house = houseOf(9, ONE_MORE, 0);
        int[] amounts = {0, 1, 1, 20, 20};
        int[] minus = {0, 0, 1, 0, 1};
        house.rule(0, AMOUNT, false);
        for (int i = 0; i < amounts.length; i++) {
            int needed = targetOf(house, 1, amounts[i], 0, 0);
            house.attribute(needed, 3, minus[i]);
            int target = targetOf(house, 0, 0, 0, needed + 1);
            due("run", house.run(target), 0);
            due("one more", house.provider(target, 0), (minus[i] == 1 ? -amounts[i] : amounts[i]) + 1);
        }
        RuleHouse2 chain = houseOf(1, ONE_MORE, 0);
        chain.rule(0, AMOUNT, false);
        targetOf(chain, 1, 20, 0, 0);
        for (int i = 1; i < 40; i++) {
            chain.attribute(chain.target(0), 2, i);
        }
        due("the last of a chain of 40", chain.run(39), 0);
        due("the last of a chain of 40", chain.provider(39, 0), 59);
        due("the second of it", chain.provider(1, 0), 21);
    }

    private static void cellBecomesOneMore() {
        says("5: the CELL of its CLASS becomes 1 more; PROVIDER 2 becomes what it is then");
        RuleHouse2 house = houseOf(9, COUNT, 40);
        for (int i = 39; i >= 0; i--) {
            house.run(i);
        }
        due("the first that was run", house.provider(39, 2), 1);
        due("the last that was run", house.provider(0, 2), 40);
        due("the cell", house.cell(0), 40);
        house.divide(0, 1, 1);
        due("what it was then", house.provider(0, 2), 40);
        RuleHouse2 divided = houseOf(9, COUNT, 1);
        divided.divide(0, 1, 1);
        divided.divide(0, 1, 1);
        divided.run(0);
        due("behind two divisions", divided.provider(0, 2), 3);
    }

    private static void provider0BecomesAttribute0() {
        says("6: PROVIDER 0 becomes ATTRIBUTE 0; with ATTRIBUTE 3 of 1: minus that");
        RuleHouse2 house = houseOf(9, AMOUNT, 0);
        int[] amounts = {0, 1, 20};
        for (int amount : amounts) {
            for (int minus = 0; minus < 2; minus++) {
                int target = targetOf(house, 0, amount, 0, 0);
                house.attribute(target, 3, minus);
                due("run", house.run(target), 0);
                due("provider 0", house.provider(target, 0), minus == 1 ? -amount : amount);
            }
        }
    }

    private static void handlesAtMost40() {
        says("7: a HANDLE is kept (numbered from 0, at most 40 in all; beyond that none is)");
        RuleHouse2 house = houseOf(9, KEEP, 40);
        dueHandle(house, 0, false);
        for (int i = 0; i < 40; i++) {
            house.run(39 - i);
            dueHandle(house, i, true);
            dueHandle(house, i + 1, false);
        }
        house.run(39);
        dueHandle(house, 39, true);
        dueHandle(house, 40, false);
    }

    private static void aFailureEndsThat() {
        says("A FAILURE ends that");
        RuleHouse2 house = new RuleHouse2(30);
        int behind = COUNT + AMOUNT + KEEP;
        dueFailure(house, newTarget(house, DECLARE + DECLARE_AGAIN + behind, 1, 1, 0), DOUBLE, 1, 0);
        dueFailure(house, newTarget(house, QUOTIENT + behind, 1, 0, 0), DIVIDE, 3, 1);
        dueFailure(house, newTarget(house, ONE_MORE + behind, 1, 1, 0), UNDECLARED, 4, 2);
        dueFailure(house, newTarget(house, behind, 1, 1, 1), NEED, 8, 0);
        for (int rule = 0; rule < 4; rule++) {
            due("cell " + rule, house.cell(rule), 0);
            due("provider of " + rule, house.provider(rule, 0), 0);
        }
        RuleHouse2 full = houseWithActions(21, 400);
        dueFailure(full, newTarget(full, ACT + behind, 1, 1, 0), ROOM, 2, 20);
        due("cell behind ROOM", full.cell(1), 0);
        dueHandle(full, 0, false);
        RuleHouse2 few = new RuleHouse2(2);
        dueFailure(few, newTarget(few, ACT + COUNT + KEEP, 2, 0, 0), STEPS, 2, 0);
        due("cell behind STEPS", few.cell(0), 0);
        dueHandle(few, 0, false);
        dueHandle(house, 0, false);
    }

    private static void actionsAndProvidersAreGone() {
        says("its ACTIONS and PROVIDERS are gone");
        RuleHouse2 house = new RuleHouse2(8);
        int gives = newTarget(house, AMOUNT, 7, 0, 0);
        int all = newTarget(house, 255 - DECLARE, 2, 1, gives + 1);
        dueFailure(house, all, STEPS, 7, all);
        for (int name = 0; name < 3; name++) {
            due("provider " + name, house.provider(all, name), 0);
        }
        dueActions(house, 0);
        due("the needed keeps its own", house.provider(gives, 0), 7);
        int divides = newTarget(house, ACT + QUOTIENT, 5, 0, 0);
        dueFailure(house, divides, DIVIDE, 3, divides);
        dueActions(house, 0);
        int half = newTarget(house, QUOTIENT + ONE_MORE, 5, 1, 0);
        dueFailure(house, half, UNDECLARED, 4, half);
        due("provider 1 of it", house.provider(half, 1), 0);
        RuleHouse2 full = houseWithActions(21, 395);
        dueFailure(full, targetOf(full, 0, 6, 0, 0), ROOM, 2, 20);
        dueActions(full, 395);
        due("their room is free again", full.run(targetOf(full, 0, 5, 0, 0)), 5);
    }

    private static void cellsAndHandlesStay() {
        says("CELLS and HANDLES stay");
        RuleHouse2 house = new RuleHouse2(2);
        int keeper = newTarget(house, KEEP, 0, 0, 0);
        int counts = newTarget(house, COUNT + AMOUNT + KEEP, 0, 0, keeper + 1);
        dueFailure(house, counts, STEPS, 7, counts);
        due("the cell", house.cell(1), 1);
        due("its provider is gone", house.provider(counts, 2), 0);
        dueHandle(house, 0, true);
        dueHandle(house, 1, false);
        dueFailure(house, targetOf(house, 1, 0, 0, 0), STEPS, 7, 2);
        due("the cell counts on", house.cell(1), 2);
        house.run(targetOf(house, 0, 0, 0, 0));
        dueHandle(house, 0, true);
        dueHandle(house, 1, true);
    }

    private static void actionsAreNumberedAsTheyCame() {
        says("ACTIONS are numbered from 0 in the order in which they came");
        RuleHouse2 house = houseOf(9, ACT, 3);
        for (int i = 0; i < 3; i++) {
            house.attribute(i, 0, 2);
        }
        house.attribute(2, 2, 1);
        dueActions(house, 0);
        house.run(1);
        house.run(2);
        int[] owners = {1, 1, 0, 0, 2, 2};
        for (int i = 0; i < owners.length; i++) {
            due("target of action " + i, house.action(i, 0), owners[i]);
            due("number of action " + i, house.action(i, 1), i % 2);
        }
        dueActions(house, 6);
        due("below the first", house.action(-1, 0), -1);
    }

    private static void goneActionsAreLeftOut() {
        says("those that are gone left out");
        RuleHouse2 house = new RuleHouse2(9);
        house.rule(0, ACT, false);
        house.rule(0, ACT + QUOTIENT, false);
        house.run(targetOf(house, 0, 1, 0, 0));
        house.run(targetOf(house, 1, 3, 0, 0));
        house.run(targetOf(house, 1, 2, 1, 0));
        int needed = targetOf(house, 0, 2, 0, 0);
        dueFailure(house, targetOf(house, 1, 3, 0, needed + 1), DIVIDE, 3, 4);
        int[] owners = {0, 2, 2, 3, 3};
        int[] numbers = {0, 0, 1, 0, 1};
        for (int i = 0; i < owners.length; i++) {
            due("target of action " + i, house.action(i, 0), owners[i]);
            due("number of action " + i, house.action(i, 1), numbers[i]);
        }
        dueActions(house, 5);
    }

    private static void digestOfAnAction() {
        says("((EDITION * 31 + DOES) * 31 + TARGET) * 31 + its number among those of its TARGET (from 0)");
        RuleHouse2 house = new RuleHouse2(99);
        house.rule(0, ACT, false);
        house.rule(3, 255 - DECLARE, false);
        house.rule(0, AMOUNT, false);
        for (int i = 0; i < 39; i++) {
            house.target(i == 0 ? 0 : 2);
        }
        house.attribute(0, 0, 1);
        int last = targetOf(house, 1, 20, 1, 2);
        due("run 39", house.run(last), 20);
        due("run 0", house.run(0), 1);
        due("its first action", house.action(0, 2), ((3 * 31 + 254) * 31 + 39) * 31);
        due("its last action", house.action(19, 2), ((3 * 31 + 254) * 31 + 39) * 31 + 19);
        due("the least digest", house.action(20, 2), 4 * 31 * 31);
    }
}
