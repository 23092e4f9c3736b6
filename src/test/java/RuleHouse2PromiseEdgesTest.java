import java.util.ArrayList;
import java.util.List;

/** One method for each sentence of promises 1 to 13 that names a boundary case; each quotes its sentence. */
public final class RuleHouse2PromiseEdgesTest {
    private static final int DECLARE = 1;
    private static final int DECLARE_AGAIN = 2;
    private static final int ACT = 4;
    private static final int QUOTIENT = 8;
    private static final int ONE_MORE = 16;
    private static final int COUNT = 32;
    private static final int AMOUNT = 64;
    private static final int KEEP = 128;

    private static final int LEAST = Integer.MIN_VALUE;
    private static final int MOST = Integer.MAX_VALUE;
    private static final int[] FAR = {LEAST, LEAST + 1, -65536, -17, -2, -1, 65536, MOST - 1, MOST};

    private static String sentence = "";
    private static int sentences = 0;
    private static int wrong = 0;

    public static void main(String[] args) {
        newObject();
        rule();
        make();
        attribute();
        target();
        run();
        action();
        provider();
        failed();
        cell();
        same();
        divide();
        handle();
        refused();
        System.out.println(wrong == 0 ? sentences + " sentences hold" : wrong + " answers are not as due");
        if (wrong != 0) {
            System.exit(1);
        }
    }

    private static void newObject() {
        noRulesAndTargets();
        stepsBelow0CountAs0();
        stepsAbove65536CountAsThat();
        soManySteps();
        housesShareNothing();
    }

    private static void rule() {
        ruleOutsideARange();
        ruleWithoutRoom();
    }

    private static void make() {
        makeIfItWasnt();
        makeNoneIfStartFails();
        makeNoneWithoutRule();
    }

    private static void attribute() {
        attributeTellsWhatItWas();
        attributeWithoutTargetOrName();
        attributeNotAsSaid();
        attributeOfATargetThatWasRun();
    }

    private static void target() {
        targetWithoutRule();
        targetWithoutRoom();
    }

    private static void run() {
        runTellsHowManyActions();
        runTellsTheFailure();
        runWithoutTarget();
    }

    private static void action() {
        actionThatIsNone();
        actionOfAnotherWhat();
    }

    private static void provider() {
        providerThatItHasnt();
        providerBeforeTheRun();
        providerThatIsNone();
    }

    private static void failed() {
        failedWithoutFailure();
        failedBitOfStartAndNeed();
        failedBegunByItself();
        failedBegunByOthers();
        failedWithoutTarget();
        failedOfAnotherWhat();
        failedBeforeTheRun();
    }

    private static void cell() {
        cellNoneIfNotMade();
        cellNoneWithoutRule();
    }

    private static void same() {
        sameMadeOrNot();
        sameFalseWithoutRule();
    }

    private static void divide() {
        divideMakesTheClass();
        divideCountsAheadOfThat();
        divideThrowsBy0();
        divideWrapsAround();
        divideNothingWithoutClass();
    }

    private static void handle() {
        handleThatIsThere();
        handleThatIsNone();
    }

    private static void refused() {
        refusedInThisOrder();
        refusedCallsChangeNothing();
        askingChangesNothing();
    }

    private static void says(String text) {
        sentence = text;
        sentences++;
    }

    private static void due(String call, long got, long want) {
        if (got != want) {
            wrong++;
            System.out.println("'" + sentence + "': " + call + " answered " + got + ", due is " + want);
        }
    }

    private static void due(String call, String got, String want) {
        if (!got.equals(want)) {
            wrong++;
            System.out.println("'" + sentence + "': " + call + " answered " + got + ", due is " + want);
        }
    }

    private static String handleOf(RuleHouse2 house, int kept) {
        try {
            return String.valueOf(house.handle(kept));
        } catch (IllegalStateException e) {
            return "throws";
        }
    }

    private static String divideOf(RuleHouse2 house, int rule, long a, long by) {
        try {
            return String.valueOf(house.divide(rule, a, by));
        } catch (ArithmeticException e) {
            // The machine's own text: the class is to throw by itself, ahead of the division.
            return "/ by zero".equals(e.getMessage()) ? "the machine throws" : "throws";
        }
    }

    private static RuleHouse2 houseOf(int steps, int does, int targets) {
        RuleHouse2 house = new RuleHouse2(steps);
        house.rule(0, does, false);
        for (int i = 0; i < targets; i++) {
            house.target(0);
        }
        return house;
    }

    private static int targetOf(RuleHouse2 house, int rule, int amount, int divisor, int needed) {
        int target = house.target(rule);
        house.attribute(target, 0, amount);
        house.attribute(target, 1, divisor);
        house.attribute(target, 2, needed);
        return target;
    }

    private static void noRulesAndTargets() {
        says("No RULES, TARGETS");
        RuleHouse2 house = new RuleHouse2(9);
        due("make", house.make(0), -1);
        due("attribute", house.attribute(0, 0, 0), -1);
        due("target", house.target(0), -1);
        due("run", house.run(0), -1);
        due("action", house.action(0, 0), -1);
        due("provider", house.provider(0, 0), 0);
        due("failed", house.failed(0, 0), -1);
        due("cell", house.cell(0), -1);
        due("same", house.same(0, 0) ? 1 : 0, 0);
        due("divide", divideOf(house, 0, 4, 0), "0");
        due("handle", handleOf(house, 0), "-1");
        due("the first rule", house.rule(0, 0, false), 0);
        due("the first target", house.target(0), 0);
        due("the first class", house.make(0), 0);
    }

    private static void stepsBelow0CountAs0() {
        says("below 0 counts as 0");
        int[] none = {0, -1, -65536, LEAST};
        for (int steps : none) {
            RuleHouse2 house = houseOf(steps, DECLARE, 1);
            due("a step with " + steps, house.run(0), -15);
            house.rule(0, 0, false);
            due("no step with " + steps, house.run(house.target(1)), 0);
        }
    }

    private static void stepsAbove65536CountAsThat() {
        says("above 65536 as that");
        int[] plenty = {65535, 65536, 65537, 131072, MOST};
        for (int steps : plenty) {
            RuleHouse2 house = houseOf(steps, AMOUNT, 1);
            house.rule(0, 255 - DECLARE, false);
            // The most that a target can take: seven bits and twenty actions.
            due("27 steps of " + steps, house.run(targetOf(house, 1, 20, 1, 1)), 20);
        }
    }

    private static void soManySteps() {
        says("a TARGET may take so many STEPS");
        for (int steps = 1; steps <= 21; steps++) {
            RuleHouse2 house = houseOf(steps, ACT, 2);
            house.attribute(0, 0, steps - 1);
            due("as many as " + steps, house.run(0), steps - 1);
            if (steps <= 20) {
                house.attribute(1, 0, steps);
                due("one more than " + steps, house.run(1), -15);
            }
        }
    }

    private static void housesShareNothing() {
        says("A new object");
        RuleHouse2 used = houseOf(9, ACT + COUNT + KEEP, 1);
        RuleHouse2 other = houseOf(0, ACT + COUNT + KEEP, 1);
        used.attribute(0, 0, 3);
        due("run", used.run(0), 3);
        due("not run in the other", other.failed(0, 0), -3);
        due("not made in the other", other.cell(0), -1);
        due("no attribute in the other", other.attribute(0, 0, 1), 0);
        due("no action in the other", other.action(0, 0), -1);
        due("no handle in the other", handleOf(other, 0), "-1");
        due("steps of the other", other.run(0), -15);
        due("run stays", used.run(0), 3);
    }

    private static void ruleOutsideARange() {
        says("- 2: EDITION or DOES");
        RuleHouse2 house = new RuleHouse2(9);
        for (int far : FAR) {
            due("edition " + far, house.rule(far, 0, false), -2);
            due("does " + far, house.rule(0, far, true), -2);
            due("both " + far, house.rule(far, far, true), -2);
        }
        due("edition 4", house.rule(4, 255, false), -2);
        due("does 256", house.rule(3, 256, false), -2);
        due("both at the end", house.rule(3, 255, false), 0);
        due("both at the start", house.rule(0, 0, false), 1);
    }

    private static void ruleWithoutRoom() {
        says("A new RULE: its number .. - 4");
        RuleHouse2 house = new RuleHouse2(9);
        for (int i = 0; i < 16; i++) {
            due("rule", house.rule(0, i, false), i);
        }
        due("no room", house.rule(0, 0, false), -4);
        due("no room again", house.rule(3, 255, true), -4);
        due("edition ahead of room", house.rule(4, 0, false), -2);
        due("does ahead of room", house.rule(0, -1, false), -2);
        due("the last rule stays", house.same(15, 15) ? 1 : 0, 1);
        due("there is no 16", house.same(16, 16) ? 1 : 0, 0);
    }

    private static void makeIfItWasnt() {
        says("The CLASS of a RULE, MADE if it wasn't");
        RuleHouse2 house = new RuleHouse2(9);
        for (int i = 0; i < 16; i++) {
            house.rule(i % 4, i / 8, false);
        }
        // Sixteen rules of eight classes.
        for (int i = 0; i < 16; i++) {
            due("make " + i, house.make(i), i % 4 + 4 * (i / 8));
        }
        for (int i = 15; i >= 0; i--) {
            due("make again " + i, house.make(i), i % 4 + 4 * (i / 8));
        }
    }

    private static void makeNoneIfStartFails() {
        says("NONE if its START fails");
        RuleHouse2 house = new RuleHouse2(9);
        house.rule(0, 0, true);
        house.rule(0, 1, false);
        due("make", house.make(0), RuleHouse2.NONE);
        due("make again", house.make(0), RuleHouse2.NONE);
        due("another", house.make(1), 0);
        due("make behind another", house.make(0), RuleHouse2.NONE);
    }

    private static void makeNoneWithoutRule() {
        says("or there is no such RULE");
        RuleHouse2 house = houseOf(9, 0, 0);
        for (int far : FAR) {
            due("make " + far, house.make(far), RuleHouse2.NONE);
        }
        due("make 1", house.make(1), RuleHouse2.NONE);
        due("make 16", house.make(16), RuleHouse2.NONE);
        due("the first class", house.make(0), 0);
    }

    private static void attributeTellsWhatItWas() {
        says("An ATTRIBUTE becomes v: what it was");
        RuleHouse2 house = houseOf(9, 0, 3);
        int[] first = {20, LEAST, 2, 1};
        int[] then = {0, MOST, 1, 0};
        for (int name = 0; name < 4; name++) {
            due("at first", house.attribute(2, name, first[name]), 0);
            due("the same again", house.attribute(2, name, first[name]), first[name]);
        }
        for (int name = 0; name < 4; name++) {
            due("then", house.attribute(2, name, then[name]), first[name]);
            due("then", house.attribute(2, name, first[name]), then[name]);
            due("of another target", house.attribute(1, name, 0), 0);
        }
    }

    private static void attributeWithoutTargetOrName() {
        says("- 1: there is no such TARGET, or name");
        RuleHouse2 house = houseOf(9, 0, 2);
        for (int far : FAR) {
            due("target " + far, house.attribute(far, 0, 0), -1);
            due("name " + far, house.attribute(0, far, 0), -1);
            due("both " + far, house.attribute(far, far, far), -1);
        }
        due("target 2", house.attribute(2, 0, 0), -1);
        due("name 4", house.attribute(1, 4, 0), -1);
        due("name 3", house.attribute(1, 3, 0), 0);
    }

    private static void attributeNotAsSaid() {
        says("- 2: v is not as said (the TARGET that it needs is one that is there, of course)");
        RuleHouse2 house = houseOf(9, 0, 2);
        for (int far : FAR) {
            due("attribute 0: " + far, house.attribute(1, 0, far), -2);
            due("attribute 2: " + far, house.attribute(1, 2, far), -2);
            due("attribute 3: " + far, house.attribute(1, 3, far), -2);
        }
        due("one that is there", house.attribute(1, 2, 1), 0);
        due("itself", house.attribute(1, 2, 2), -2);
        due("the next, not there", house.attribute(1, 2, 3), -2);
        house.target(0);
        due("the next, there", house.attribute(1, 2, 3), -2);
        due("what was not changed", house.attribute(1, 2, 0), 1);
    }

    private static void attributeOfATargetThatWasRun() {
        says("- 3: the TARGET was RUN");
        RuleHouse2 house = houseOf(0, 0, 3);
        house.rule(0, DECLARE, false);
        house.rule(0, DECLARE, true);
        house.rule(1, 0, true);
        house.attribute(1, 2, 1);
        house.run(1);
        int noSteps = targetOf(house, 1, 0, 0, 0);
        int noStart = targetOf(house, 3, 0, 0, 0);
        int byNeed = targetOf(house, 0, 0, 0, noSteps + 1);
        house.run(byNeed);
        house.run(noStart);
        int[] wereRun = {0, 1, noSteps, noStart, byNeed};
        for (int target : wereRun) {
            for (int name = 0; name < 4; name++) {
                due("attribute " + name + " of " + target, house.attribute(target, name, 0), -3);
            }
            due("range ahead of state, " + target, house.attribute(target, 2, target + 1), -2);
            due("name ahead of state, " + target, house.attribute(target, 4, 0), -1);
        }
        due("one that was not run", house.attribute(2, 0, 1), 0);
    }

    private static void targetWithoutRule() {
        says("- 1: there is no such RULE");
        RuleHouse2 house = houseOf(9, 0, 0);
        for (int far : FAR) {
            due("rule " + far, house.target(far), -1);
        }
        due("rule 1", house.target(1), -1);
        due("rule 16", house.target(16), -1);
        due("the first target", house.target(0), 0);
    }

    private static void targetWithoutRoom() {
        says("A new TARGET of a RULE: its number .. - 4");
        RuleHouse2 house = new RuleHouse2(9);
        house.rule(0, 0, true);
        for (int i = 0; i < 40; i++) {
            due("target", house.target(0), i);
        }
        due("no room", house.target(0), -4);
        due("rule ahead of room", house.target(1), -1);
        due("rule ahead of room", house.target(-1), -1);
        due("no target 40", house.failed(40, 0), -1);
        due("a target 39", house.failed(39, 0), -3);
    }

    private static void runTellsHowManyActions() {
        says("A TARGET is RUN, if it wasn't: how many ACTIONS it has");
        RuleHouse2 house = houseOf(21, ACT, 3);
        house.attribute(1, 0, 1);
        house.attribute(2, 0, 20);
        house.attribute(2, 2, 2);
        due("20, not those of the needed", house.run(2), 20);
        due("run by need", house.run(1), 1);
        due("none", house.run(0), 0);
        due("again", house.run(2), 20);
        due("none again", house.run(0), 0);
    }

    private static void runTellsTheFailure() {
        says("or - 10 less its FAILURE's number");
        RuleHouse2 house = new RuleHouse2(21);
        int[] does = {0, DECLARE + DECLARE_AGAIN, QUOTIENT, ONE_MORE, DECLARE + ACT, 0, ACT};
        for (int i = 0; i < does.length; i++) {
            house.rule(i == 0 ? 1 : 0, does[i], i == 0);
        }
        // 381 actions: the twentieth more has no room, and ahead of that no step behind bit 0.
        for (int i = 0; i < 20; i++) {
            house.run(targetOf(house, 6, i == 0 ? 1 : 20, 0, 0));
        }
        for (int i = 0; i < does.length; i++) {
            int target = targetOf(house, i, 20, 0, i == 5 ? 21 : 0);
            due("failure " + (i + 1), house.run(target), -11 - i);
            due("failure " + (i + 1) + " again", house.run(target), -11 - i);
            due("its number", house.failed(target, 0), i + 1);
        }
    }

    private static void runWithoutTarget() {
        says("- 1: there is no such TARGET");
        RuleHouse2 house = houseOf(9, 0, 2);
        for (int far : FAR) {
            due("run " + far, house.run(far), -1);
        }
        due("run 2", house.run(2), -1);
        due("run 40", house.run(40), -1);
        due("run 1", house.run(1), 0);
    }

    private static void actionThatIsNone() {
        says("Of ACTION i .. - 1: there is none such");
        RuleHouse2 house = houseOf(9, ACT, 1);
        house.attribute(0, 0, 2);
        due("ahead of the run", house.action(0, 0), -1);
        house.run(0);
        for (int far : FAR) {
            due("action " + far, house.action(far, 0), -1);
            due("action " + far, house.action(far, far), -1);
        }
        due("the last action", house.action(1, 1), 1);
        for (int what = -1; what < 4; what++) {
            due("the next, what " + what, house.action(2, what), -1);
            due("action 400, what " + what, house.action(400, what), -1);
        }
    }

    private static void actionOfAnotherWhat() {
        says("- 2: another what");
        RuleHouse2 house = houseOf(9, ACT, 1);
        house.attribute(0, 0, 1);
        house.run(0);
        for (int far : FAR) {
            due("what " + far, house.action(0, far), -2);
        }
        due("what 3", house.action(0, 3), -2);
        due("what 2", house.action(0, 2), 4 * 31 * 31);
        due("what 1", house.action(0, 1), 0);
        due("what 0", house.action(0, 0), 0);
    }

    private static void providerThatItHasnt() {
        says("A PROVIDER of a TARGET; 0 if it hasn't it");
        RuleHouse2 house = new RuleHouse2(3);
        int[] does = {AMOUNT, QUOTIENT, COUNT};
        for (int i = 0; i < 3; i++) {
            house.rule(0, does[i], false);
            house.run(targetOf(house, i, 9, 9, 0));
            for (int name = 0; name < 3; name++) {
                due("provider " + name + " of " + i, house.provider(i, name), name != i ? 0 : i == 0 ? 9 : 1);
            }
        }
        house.rule(0, QUOTIENT + COUNT + AMOUNT + KEEP, false);
        due("run 3", house.run(targetOf(house, 3, 9, 3, 0)), -15);
        for (int name = 0; name < 3; name++) {
            due("gone with the failure, " + name, house.provider(3, name), 0);
        }
    }

    private static void providerBeforeTheRun() {
        says("wasn't RUN");
        RuleHouse2 house = houseOf(9, QUOTIENT + COUNT + AMOUNT, 1);
        house.attribute(0, 0, 20);
        house.attribute(0, 1, 2);
        for (int name = 0; name < 3; name++) {
            due("provider " + name, house.provider(0, name), 0);
        }
        due("that did not run it", house.failed(0, 0), -3);
        house.run(0);
        due("provider 0 then", house.provider(0, 0), 20);
        due("provider 1 then", house.provider(0, 1), 10);
        due("provider 2 then", house.provider(0, 2), 1);
    }

    private static void providerThatIsNone() {
        says("or there is none such");
        RuleHouse2 house = houseOf(9, QUOTIENT + COUNT + AMOUNT, 1);
        house.attribute(0, 0, 20);
        house.attribute(0, 1, 2);
        house.run(0);
        for (int far : FAR) {
            due("target " + far, house.provider(far, 0), 0);
            due("name " + far, house.provider(0, far), 0);
            due("both " + far, house.provider(far, far), 0);
        }
        due("name 3", house.provider(0, 3), 0);
        due("target 1", house.provider(1, 0), 0);
        due("target 40", house.provider(40, 2), 0);
    }

    private static void failedWithoutFailure() {
        says("0 its FAILURE's number, 0 without one .. 1 and 2 are 0 without a FAILURE");
        RuleHouse2 house = houseOf(9, AMOUNT, 2);
        house.attribute(1, 2, 1);
        house.run(1);
        for (int target = 0; target < 2; target++) {
            for (int what = 0; what < 3; what++) {
                due("failed " + target + ", " + what, house.failed(target, what), 0);
            }
        }
    }

    private static void failedBitOfStartAndNeed() {
        says("1 the bit at which it was (8 of START and NEED)");
        RuleHouse2 house = new RuleHouse2(0);
        house.rule(0, 255, true);
        house.rule(0, 1, false);
        house.target(0);
        targetOf(house, 1, 0, 0, 1);
        house.run(1);
        due("START", house.failed(0, 1), 8);
        due("NEED", house.failed(1, 1), 8);
        for (int bit = 0; bit < 8; bit++) {
            RuleHouse2 none = houseOf(0, 255 - ((1 << bit) - 1), 1);
            none.run(0);
            due("STEPS at bit " + bit, none.failed(0, 1), bit);
        }
    }

    private static void failedBegunByItself() {
        says("2 the TARGET whose FAILURE began it (.. or itself): 1 and its number");
        RuleHouse2 house = houseOf(0, DECLARE, 40);
        house.rule(1, 0, true);
        due("run 0", house.run(0), -15);
        due("the first target", house.failed(0, 2), 1);
        due("run 39", house.run(39), -15);
        due("the last target", house.failed(39, 2), 40);
        RuleHouse2 start = houseOf(0, 0, 2);
        start.rule(1, 0, true);
        int noStart = targetOf(start, 1, 0, 0, 2);
        due("run", start.run(noStart), -11);
        due("START", start.failed(noStart, 2), noStart + 1);
    }

    private static void failedBegunByOthers() {
        says("2 the TARGET whose FAILURE began it (that it needs, or needs by others ..): 1 and its number");
        RuleHouse2 house = houseOf(1, AMOUNT, 2);
        house.rule(0, QUOTIENT, false);
        int bad = targetOf(house, 1, 1, 0, 2);
        int needs = targetOf(house, 0, 0, 0, bad + 1);
        int byOthers = targetOf(house, 0, 0, 0, needs + 1);
        int byMore = targetOf(house, 1, 1, 0, byOthers + 1);
        due("run", house.run(byOthers), -16);
        due("run", house.run(byMore), -16);
        int[] all = {bad, needs, byOthers, byMore};
        for (int target : all) {
            due("failed " + target, house.failed(target, 2), bad + 1);
        }
        due("what the failed one needs", house.failed(1, 2), 0);
        due("it failed by itself", house.failed(bad, 0), 3);
    }

    private static void failedWithoutTarget() {
        says("Of a TARGET .. - 1: there is no such TARGET");
        RuleHouse2 house = houseOf(9, 0, 1);
        for (int far : FAR) {
            due("target " + far, house.failed(far, 0), -1);
            due("target " + far + ", another what", house.failed(far, 3), -1);
        }
        due("target 1", house.failed(1, 0), -1);
        due("target 40", house.failed(40, 2), -1);
    }

    private static void failedOfAnotherWhat() {
        says("- 2: another what");
        RuleHouse2 house = houseOf(0, DECLARE, 2);
        house.run(0);
        for (int far : FAR) {
            due("run, what " + far, house.failed(0, far), -2);
            due("not run, what " + far, house.failed(1, far), -2);
        }
        due("run, what 3", house.failed(0, 3), -2);
        due("not run, what 3", house.failed(1, 3), -2);
    }

    private static void failedBeforeTheRun() {
        says("- 3: it wasn't RUN");
        RuleHouse2 house = houseOf(9, 0, 2);
        house.rule(0, 1, true);
        house.target(1);
        house.make(1);
        house.make(0);
        for (int target = 0; target < 3; target++) {
            for (int what = 0; what < 3; what++) {
                due("failed " + target + ", " + what, house.failed(target, what), -3);
            }
        }
        house.run(0);
        due("run", house.failed(0, 0), 0);
        due("the other", house.failed(1, 0), -3);
    }

    private static void cellNoneIfNotMade() {
        says("The CELL of a RULE's CLASS; NONE if it wasn't MADE");
        RuleHouse2 house = houseOf(9, COUNT, 1);
        house.rule(1, COUNT, false);
        house.rule(0, COUNT, true);
        house.rule(2, COUNT, true);
        due("asking does not make", house.cell(0), -1);
        due("asking does not make", house.cell(0), -1);
        house.run(0);
        due("made", house.cell(0), 1);
        due("by another rule of it", house.cell(2), 1);
        due("another edition", house.cell(1), -1);
        house.make(3);
        due("the START fails", house.cell(3), -1);
        house.make(1);
        due("made, not counted", house.cell(1), 0);
    }

    private static void cellNoneWithoutRule() {
        says("or there is no such RULE");
        RuleHouse2 house = houseOf(9, 0, 0);
        house.make(0);
        for (int far : FAR) {
            due("cell " + far, house.cell(far), -1);
        }
        due("cell 1", house.cell(1), -1);
        due("cell 16", house.cell(16), -1);
        due("cell 0", house.cell(0), 0);
    }

    private static void sameMadeOrNot() {
        says("Whether two RULES are of one CLASS (MADE or not)");
        RuleHouse2 house = new RuleHouse2(9);
        int[] editions = {0, 0, 0, 1, 3, 3, 1};
        int[] does = {31, 31, 0, 0, 255, 255, 31};
        boolean[] fails = {false, true, false, false, true, false, true};
        for (int i = 0; i < editions.length; i++) {
            house.rule(editions[i], does[i], fails[i]);
        }
        for (int made = 0; made < 2; made++) {
            for (int a = 0; a < editions.length; a++) {
                for (int b = 0; b < editions.length; b++) {
                    boolean alike = editions[a] == editions[b] && does[a] == does[b];
                    due("same " + a + ", " + b, house.same(a, b) ? 1 : 0, alike ? 1 : 0);
                }
            }
            due("asking does not make", house.cell(2), made == 0 ? -1 : 0);
            for (int i = 0; i < editions.length; i++) {
                house.make(i);
            }
        }
    }

    private static void sameFalseWithoutRule() {
        says("false if one is not there");
        RuleHouse2 house = houseOf(9, 0, 0);
        int[] none = {1, 15, 16};
        for (int far : FAR) {
            due("same " + far + ", 0", house.same(far, 0) ? 1 : 0, 0);
            due("same 0, " + far, house.same(0, far) ? 1 : 0, 0);
            due("neither " + far, house.same(far, far) ? 1 : 0, 0);
        }
        for (int number : none) {
            due("same " + number + ", 0", house.same(number, 0) ? 1 : 0, 0);
            due("same 0, " + number, house.same(0, number) ? 1 : 0, 0);
            due("neither " + number, house.same(number, number) ? 1 : 0, 0);
        }
        due("one that is there", house.same(0, 0) ? 1 : 0, 1);
    }

    private static void divideMakesTheClass() {
        says("as the RULE's CLASS does it (MADE if it wasn't)");
        RuleHouse2 house = houseOf(0, 0, 0);
        house.rule(1, 0, false);
        house.rule(1, 0, true);
        house.rule(2, 0, false);
        due("divide", house.divide(2, 9, 2), 4);
        due("made by it", house.make(1), 0);
        due("not the other", house.cell(0), -1);
        due("by 0", divideOf(house, 3, 9, 0), "throws");
        due("made by that too", house.make(3), 1);
        due("was made", house.divide(1, 8, 2), 4);
        due("made once", house.make(2), 0);
    }

    private static void divideCountsAheadOfThat() {
        says("the CELL becomes 1 more ahead of that");
        RuleHouse2 house = houseOf(0, 0, 0);
        house.rule(1, 0, false);
        house.rule(0, 0, false);
        house.make(1);
        due("divide", house.divide(0, 0, 1), 0);
        due("the cell", house.cell(0), 1);
        due("by 0", divideOf(house, 0, 0, 0), "throws");
        due("the cell", house.cell(0), 2);
        due("by 0 by another rule of it", divideOf(house, 2, 1, 0), "throws");
        due("the cell", house.cell(0), 3);
        due("another edition", house.cell(1), 0);
    }

    private static void divideThrowsBy0() {
        says("ArithmeticException: by is 0");
        RuleHouse2 house = houseOf(9, 0, 0);
        long[] all = {0, 1, -1, Long.MIN_VALUE, Long.MAX_VALUE};
        for (long a : all) {
            due(a + " by 0", divideOf(house, 0, a, 0), "throws");
            due(a + " by 1", divideOf(house, 0, a, 1), String.valueOf(a));
        }
        // As an int these would be 0.
        due("by 2 to the 32nd", divideOf(house, 0, 1L << 33, 1L << 32), "2");
        due("by the least", divideOf(house, 0, 5, Long.MIN_VALUE), "0");
    }

    private static void divideWrapsAround() {
        says("a divided by by");
        RuleHouse2 house = houseOf(9, 0, 0);
        due("the least by -1", house.divide(0, Long.MIN_VALUE, -1), Long.MIN_VALUE);
        due("the most by -1", house.divide(0, Long.MAX_VALUE, -1), -Long.MAX_VALUE);
        due("the least by itself", house.divide(0, Long.MIN_VALUE, Long.MIN_VALUE), 1);
        due("the most by the least", house.divide(0, Long.MAX_VALUE, Long.MIN_VALUE), 0);
        due("the least by the most", house.divide(0, Long.MIN_VALUE, Long.MAX_VALUE), -1);
        due("7 by 2", house.divide(0, 7, 2), 3);
        due("-7 by 2", house.divide(0, -7, 2), -3);
        due("7 by -2", house.divide(0, 7, -2), -3);
        due("-7 by -2", house.divide(0, -7, -2), 3);
        due("-1 by 2", house.divide(0, -1, 2), 0);
    }

    private static void divideNothingWithoutClass() {
        says("0, and nothing happens, if there is no such RULE, or its START fails");
        RuleHouse2 house = houseOf(9, 0, 0);
        house.rule(1, 0, true);
        for (int far : FAR) {
            due("rule " + far, divideOf(house, far, 6, 2), "0");
            due("rule " + far + " by 0", divideOf(house, far, 6, 0), "0");
        }
        for (int rule = 1; rule < 3; rule++) {
            due("rule " + rule, divideOf(house, rule, 6, 2), "0");
            due("rule " + rule + " by 0", divideOf(house, rule, 6, 0), "0");
            due("no cell of " + rule, house.cell(rule), -1);
        }
        due("rule 16 by 0", divideOf(house, 16, 6, 0), "0");
        due("nothing was made", house.cell(0), -1);
        due("the first class", house.make(0), 0);
        due("nothing was counted", house.cell(0), 0);
    }

    private static void handleThatIsThere() {
        says("IllegalStateException: there is such a HANDLE");
        RuleHouse2 house = houseOf(9, KEEP, 40);
        for (int i = 0; i < 40; i++) {
            due("ahead of the run", handleOf(house, i), "-1");
            house.run(i);
            due("behind its call", handleOf(house, i), "throws");
            due("once more", handleOf(house, i), "throws");
        }
        due("the first still", handleOf(house, 0), "throws");
    }

    private static void handleThatIsNone() {
        says("NONE if there is none");
        RuleHouse2 house = houseOf(9, KEEP, 2);
        due("none is kept", handleOf(house, 0), "-1");
        house.run(0);
        for (int far : FAR) {
            due("handle " + far, handleOf(house, far), "-1");
        }
        due("handle 1", handleOf(house, 1), "-1");
        due("handle 40", handleOf(house, 40), "-1");
        house.rule(0, KEEP + QUOTIENT, false);
        house.run(house.target(1));
        due("none of one that failed ahead of it", handleOf(house, 1), "-1");
    }

    private static void refusedInThisOrder() {
        says("the first of these that holds, in this order");
        RuleHouse2 house = houseOf(9, 0, 40);
        for (int i = 1; i < 16; i++) {
            house.rule(0, i, false);
        }
        house.run(0);
        due("rule: - 2 and - 4", house.rule(-1, 0, false), -2);
        due("rule: - 4", house.rule(0, 0, false), -4);
        due("attribute: - 1 and - 2", house.attribute(40, 0, 21), -1);
        due("attribute: - 1 by name and - 3", house.attribute(0, 4, 21), -1);
        due("attribute: - 2 and - 3", house.attribute(0, 0, 21), -2);
        due("attribute: - 3", house.attribute(0, 0, 20), -3);
        due("target: - 1 and - 4", house.target(16), -1);
        due("target: - 4", house.target(15), -4);
        due("action: - 1 and - 2", house.action(0, 3), -1);
        due("failed: - 1 and - 2", house.failed(40, 3), -1);
        due("failed: - 2 and - 3", house.failed(1, 3), -2);
        due("failed: - 3", house.failed(1, 2), -3);
    }

    /** A house with some of everything, within 50 calls. */
    private static RuleHouse2 furnished() {
        RuleHouse2 house = houseOf(5, ACT + COUNT + KEEP, 2);
        house.rule(1, ONE_MORE, false);
        house.rule(2, AMOUNT, true);
        house.rule(3, AMOUNT + QUOTIENT, false);
        house.attribute(0, 0, 2);
        house.attribute(1, 0, 1);
        house.target(1);
        house.attribute(2, 2, 1);
        house.target(2);
        house.target(3);
        house.attribute(4, 0, 7);
        house.attribute(4, 1, -2);
        house.attribute(4, 3, 1);
        house.run(2);
        house.run(4);
        return house;
    }

    /** All that a furnished house can be asked for, within 400 calls; what changes it comes last. */
    private static List<String> answers(RuleHouse2 house) {
        List<String> all = new ArrayList<>();
        for (int rule = 0; rule < 5; rule++) {
            all.add("cell " + rule + " " + house.cell(rule));
            for (int other = 0; other < 5; other++) {
                all.add("same " + rule + " " + other + " " + house.same(rule, other));
            }
        }
        for (int target = 0; target < 6; target++) {
            for (int what = 0; what < 3; what++) {
                all.add("provider " + target + " " + what + " " + house.provider(target, what));
                all.add("failed " + target + " " + what + " " + house.failed(target, what));
            }
        }
        for (int i = 0; i < 5; i++) {
            all.add("action " + i + " " + house.action(i, 2));
            all.add("handle " + i + " " + handleOf(house, i));
        }
        for (int target = 0; target < 6; target++) {
            for (int name = 0; name < 4; name++) {
                all.add("attribute " + target + " " + name + " " + house.attribute(target, name, 0));
            }
        }
        all.add("target " + house.target(0));
        all.add("rule " + house.rule(3, 255, false));
        for (int rule = 0; rule < 6; rule++) {
            all.add("make " + rule + " " + house.make(rule));
        }
        for (int target = 0; target < 7; target++) {
            all.add("run " + target + " " + house.run(target));
        }
        return all;
    }

    private static void refusedCallsChangeNothing() {
        says("REFUSED");
        String due = answers(furnished()).toString();
        int[] out = {LEAST, -2, -1, 400, MOST};
        for (int n : out) {
            RuleHouse2 house = furnished();
            due("rule", house.rule(n, AMOUNT, true) + house.rule(0, n, true), -4);
            due("make", house.make(n), -1);
            due("attribute", house.attribute(n, 0, 1) + house.attribute(1, n, 1), -2);
            for (int name = 0; name < 4; name += name == 0 ? 2 : 1) {
                due("attribute", house.attribute(1, name, n), -2);
                due("attribute", house.attribute(0, name, n), -2);
                due("attribute", house.attribute(0, name, 0), -3);
            }
            due("target", house.target(n), -1);
            due("run", house.run(n), -1);
            due("action", house.action(n, 0) + house.action(0, n), -3);
            due("provider", house.provider(n, 0) + house.provider(0, n), 0);
            due("failed", house.failed(n, 0) + house.failed(0, n), -3);
            due("cell", house.cell(n), -1);
            due("same", house.same(n, 0) || house.same(0, n) ? 1 : 0, 0);
            due("divide", divideOf(house, n, 1, 0) + divideOf(house, 2, 1, 0), "00");
            due("handle", handleOf(house, n), "-1");
            due("all answers behind it", answers(house).toString(), due);
        }
    }

    private static void askingChangesNothing() {
        says("Nothing is promised beyond the answers and state changes described above");
        String due = answers(furnished()).toString();
        RuleHouse2 house = furnished();
        for (int i = 0; i < 6; i++) {
            house.action(i, i % 4);
            house.provider(i, i % 4);
            house.failed(i, i % 4);
            house.cell(i);
            house.same(i, 2);
            handleOf(house, i);
        }
        house.run(0);
        house.run(2);
        house.run(4);
        house.make(0);
        house.make(2);
        due("all answers behind it", answers(house).toString(), due);
    }
}
