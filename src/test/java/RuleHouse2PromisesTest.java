/** One method for each promise of the document: ordinary inputs, named edges and wrong inputs. */
public final class RuleHouse2PromisesTest {
    private static final int[] WRONG_NUMBERS = {-1, -2, 16, 40, 400, Integer.MIN_VALUE, Integer.MAX_VALUE};

    private static final int DECLARE = 1;
    private static final int DECLARE_AGAIN = 2;
    private static final int ACT = 4;
    private static final int QUOTIENT = 8;
    private static final int ONE_MORE = 16;
    private static final int COUNT = 32;
    private static final int AMOUNT = 64;
    private static final int KEEP = 128;

    private static int wrong = 0;

    public static void main(String[] args) {
        promise1NewObject();
        promise2Rule();
        promise3Make();
        promise4Attribute();
        promise4NeededTarget();
        promise5Target();
        promise6RunBits();
        promise6RunOrder();
        promise6RunSteps();
        promise6RunRoom();
        promise6RunLongChain();
        promise7Action();
        promise8Provider();
        promise9Failed();
        promise9FailedBits();
        promise10Cell();
        promise11Same();
        promise12Divide();
        promise13Handle();
        System.out.println(wrong == 0 ? "all promises hold" : wrong + " answers are not as due");
        if (wrong != 0) {
            System.exit(1);
        }
    }

    private static void due(String what, long got, long want) {
        if (got != want) {
            wrong++;
            System.out.println(what + " answered " + got + ", due is " + want);
        }
    }

    private static void due(String what, boolean got, boolean want) {
        due(what, got ? 1 : 0, want ? 1 : 0);
    }

    private static boolean divideThrows(RuleHouse2 house, int rule, long a, long by) {
        try {
            house.divide(rule, a, by);
            return false;
        } catch (ArithmeticException e) {
            // The machine's own text: the class is to throw by itself, ahead of the division.
            due("thrown by the machine", "/ by zero".equals(e.getMessage()), false);
            return true;
        }
    }

    private static boolean handleThrows(RuleHouse2 house, int kept) {
        try {
            due("handle(" + kept + ")", house.handle(kept), RuleHouse2.NONE);
            return false;
        } catch (IllegalStateException e) {
            return true;
        }
    }

    /** A new target of a new rule of edition 0 with attributes 0, 1 and 2. */
    private static int newTarget(RuleHouse2 house, int does, int amount, int divisor, int needed) {
        int target = house.target(house.rule(0, does, false));
        house.attribute(target, 0, amount);
        house.attribute(target, 1, divisor);
        house.attribute(target, 2, needed);
        return target;
    }

    private static void dueFailure(String what, RuleHouse2 house, int target, int failure, int bit, int began) {
        due(what + ": run", house.run(target), -10 - failure);
        due(what + ": failed 0", house.failed(target, 0), failure);
        due(what + ": failed 1", house.failed(target, 1), bit);
        due(what + ": failed 2", house.failed(target, 2), began + 1);
    }

    private static void promise1NewObject() {
        due("NONE", RuleHouse2.NONE, -1);
        RuleHouse2 fresh = new RuleHouse2(3);
        due("p1 no rule", fresh.target(0), -1);
        due("p1 no target", fresh.run(0), -1);
        due("p1 no action", fresh.action(0, 0), -1);
        due("p1 no handle", handleThrows(fresh, 0), false);
        int[] none = {0, -1, Integer.MIN_VALUE};
        for (int steps : none) {
            RuleHouse2 house = new RuleHouse2(steps);
            dueFailure("p1 steps " + steps, house, newTarget(house, DECLARE, 0, 0, 0), 5, 0, 0);
            due("p1 no bits need no steps", house.run(newTarget(house, 0, 5, 0, 0)), 0);
        }
        int[] plenty = {28, 65535, 65536, 65537, Integer.MAX_VALUE};
        for (int steps : plenty) {
            RuleHouse2 house = new RuleHouse2(steps);
            int needed = newTarget(house, AMOUNT, 0, 1, 0);
            due("p1 steps " + steps, house.run(newTarget(house, 255 - DECLARE, 20, 1, needed + 1)), 20);
        }
        RuleHouse2 other = new RuleHouse2(3);
        fresh.rule(0, COUNT, false);
        fresh.make(0);
        due("p1 houses share nothing", other.make(0), -1);
    }

    private static void promise2Rule() {
        RuleHouse2 house = new RuleHouse2(9);
        int[] wrongEditions = {-1, 4, Integer.MIN_VALUE, Integer.MAX_VALUE};
        int[] wrongDoes = {-1, 256, Integer.MIN_VALUE, Integer.MAX_VALUE};
        for (int i = 0; i < 4; i++) {
            due("p2 edition", house.rule(wrongEditions[i], 0, false), -2);
            due("p2 does", house.rule(0, wrongDoes[i], false), -2);
        }
        for (int i = 0; i < 16; i++) {
            due("p2 rule " + i, house.rule(i % 4, i % 2 == 0 ? 255 : 0, false), i);
        }
        due("p2 no room", house.rule(0, 0, false), -4);
        due("p2 range ahead of room", house.rule(4, 0, false), -2);
        due("p2 range ahead of room", house.rule(0, 256, false), -2);
        due("p2 the last is there", house.target(15), 0);
        due("p2 the refused is not", house.target(16), -1);
    }

    private static void promise3Make() {
        RuleHouse2 house = new RuleHouse2(9);
        house.rule(0, COUNT, false);
        house.rule(1, COUNT, true);
        house.rule(1, COUNT, false);
        house.rule(0, COUNT, true);
        house.rule(2, COUNT, false);
        house.rule(0, 0, false);
        house.rule(3, 0, false);
        due("p3 start fails", house.make(1), -1);
        due("p3 start fails again", house.make(1), -1);
        due("p3 the first tells that it fails", house.make(2), -1);
        due("p3 numbered as made", house.make(4), 0);
        due("p3 the first tells that it does not fail", house.make(3), 1);
        due("p3 one class", house.make(0), 1);
        due("p3 made once", house.make(4), 0);
        house.divide(6, 1, 1);
        house.run(house.target(5));
        due("p3 made by run", house.make(5), 3);
        due("p3 made by divide", house.make(6), 2);
        for (int number : WRONG_NUMBERS) {
            due("p3 no rule " + number, house.make(number), -1);
        }
        due("p3 no rule 7", house.make(7), -1);
    }

    private static void promise4Attribute() {
        RuleHouse2 house = new RuleHouse2(9);
        int target = newTarget(house, 0, 0, 0, 0);
        due("p4 amount", house.attribute(target, 0, 20), 0);
        due("p4 amount 21", house.attribute(target, 0, 21), -2);
        due("p4 amount -1", house.attribute(target, 0, -1), -2);
        due("p4 amount stays", house.attribute(target, 0, 0), 20);
        due("p4 any", house.attribute(target, 1, Integer.MIN_VALUE), 0);
        due("p4 any", house.attribute(target, 1, Integer.MAX_VALUE), Integer.MIN_VALUE);
        due("p4 any", house.attribute(target, 1, -3), Integer.MAX_VALUE);
        due("p4 any", house.attribute(target, 1, 0), -3);
        due("p4 minus", house.attribute(target, 3, 1), 0);
        due("p4 minus 2", house.attribute(target, 3, 2), -2);
        due("p4 minus -1", house.attribute(target, 3, -1), -2);
        due("p4 minus stays", house.attribute(target, 3, 0), 1);
        due("p4 name 4", house.attribute(target, 4, 0), -1);
        due("p4 name -1", house.attribute(target, -1, 0), -1);
        for (int number : WRONG_NUMBERS) {
            due("p4 no target " + number, house.attribute(number, 0, 99), -1);
        }
        due("p4 no target 1", house.attribute(1, 0, 0), -1);
        house.run(target);
        due("p4 was run", house.attribute(target, 1, 7), -3);
        due("p4 range ahead of state", house.attribute(target, 0, 21), -2);
        due("p4 name ahead of state", house.attribute(target, 4, 0), -1);
        int failed = newTarget(house, DECLARE + DECLARE_AGAIN, 0, 0, 0);
        house.run(failed);
        due("p4 was run and failed", house.attribute(failed, 1, 7), -3);
    }

    private static void promise4NeededTarget() {
        RuleHouse2 house = new RuleHouse2(9);
        house.rule(0, 0, false);
        house.target(0);
        house.target(0);
        house.target(0);
        house.target(0);
        due("p4 target 0 needs none", house.attribute(0, 2, 0), 0);
        due("p4 target 0 may not need itself", house.attribute(0, 2, 1), -2);
        due("p4 needs 0", house.attribute(2, 2, 1), 0);
        due("p4 needs the one ahead", house.attribute(2, 2, 2), 1);
        due("p4 needs itself", house.attribute(2, 2, 3), -2);
        due("p4 needs a later one", house.attribute(2, 2, 4), -2);
        due("p4 needs one below 0", house.attribute(2, 2, -1), -2);
        due("p4 needs none again", house.attribute(2, 2, 0), 2);
        house.attribute(2, 2, 2);
        house.run(2);
        due("p4 the needed was run", house.attribute(1, 0, 1), -3);
        due("p4 the others were not", house.attribute(0, 0, 1), 0);
    }

    private static void promise5Target() {
        RuleHouse2 house = new RuleHouse2(9);
        due("p5 no rule yet", house.target(0), -1);
        house.rule(0, 0, true);
        for (int i = 0; i < 40; i++) {
            due("p5 target " + i, house.target(0), i);
        }
        due("p5 no room", house.target(0), -4);
        for (int number : WRONG_NUMBERS) {
            due("p5 rule ahead of room " + number, house.target(number), -1);
        }
        due("p5 the last is there", house.attribute(39, 2, 39), 0);
        due("p5 the refused is not", house.attribute(40, 0, 0), -1);
        due("p5 attributes are 0 at first", house.attribute(7, 0, 1) + house.attribute(7, 1, 1)
            + house.attribute(7, 2, 1) + house.attribute(7, 3, 1), 0);
    }

    private static void promise6RunBits() {
        RuleHouse2 house = new RuleHouse2(100);
        for (int number : WRONG_NUMBERS) {
            due("p6 no target " + number, house.run(number), -1);
        }
        due("p6 nothing to do", house.run(newTarget(house, 0, 5, 0, 0)), 0);
        due("p6 bit 0", house.run(newTarget(house, DECLARE, 5, 0, 0)), 0);
        due("p6 bit 1", house.run(newTarget(house, DECLARE_AGAIN, 5, 0, 0)), 0);
        due("p6 bit 2", house.run(newTarget(house, ACT, 5, 0, 0)), 5);
        due("p6 bit 2 without actions", house.run(newTarget(house, ACT, 0, 0, 0)), 0);
        dueFailure("p6 DOUBLE", house, newTarget(house, DECLARE + DECLARE_AGAIN + ACT, 5, 0, 0), 2, 1, 5);
        dueFailure("p6 DIVIDE", house, newTarget(house, ACT + QUOTIENT + ONE_MORE, 5, 0, 0), 3, 3, 6);
        dueFailure("p6 UNDECLARED, needs none", house, newTarget(house, ONE_MORE, 5, 0, 0), 4, 4, 7);
        dueFailure("p6 UNDECLARED, that has none", house, newTarget(house, ONE_MORE, 5, 0, 4), 4, 4, 8);
        due("p6 run once", house.run(3), 5);
        due("p6 run once", house.run(5), -12);
        due("p6 actions gone", house.action(5, 0), -1);
        due("p6 amount 0 is a provider", house.run(newTarget(house, AMOUNT, 0, 0, 0)), 0);
        due("p6 one more than 0", house.run(newTarget(house, ONE_MORE, 0, 0, 10)), 0);
        due("p6 one more", house.provider(10, 0), 1);
        due("p6 the target", house.run(newTarget(house, COUNT, 0, 0, 0)), 0);
        due("p6 a cell counts once a target", house.run(11) + house.provider(11, 2), 1);
    }

    private static void promise6RunOrder() {
        RuleHouse2 house = new RuleHouse2(100);
        house.rule(0, ACT, false);
        house.rule(1, ACT, false);
        house.rule(2, ACT, true);
        house.target(0);
        house.target(1);
        house.attribute(0, 0, 1);
        house.attribute(1, 0, 1);
        house.attribute(1, 2, 1);
        house.run(1);
        due("p6 its class is made ahead of the needed", house.make(1), 0);
        due("p6 the needed target's class follows", house.make(0), 1);
        due("p6 the needed acts first", house.action(0, 0), 0);
        due("p6 itself acts then", house.action(1, 0), 1);
        house.target(1);
        house.target(2);
        house.attribute(3, 2, 3);
        dueFailure("p6 START", house, 3, 1, 8, 3);
        due("p6 START ahead of the needed", house.failed(2, 0), -3);
        house.target(0);
        house.attribute(4, 2, 4);
        dueFailure("p6 NEED, failed before", house, 4, 6, 8, 3);
        due("p6 no class without a start", house.make(2), -1);
    }

    private static void promise6RunSteps() {
        RuleHouse2 house = new RuleHouse2(4);
        due("p6 3 actions are 4 steps", house.run(newTarget(house, ACT, 3, 0, 0)), 3);
        dueFailure("p6 4 actions are 5", house, newTarget(house, ACT, 4, 0, 0), 5, 2, 1);
        dueFailure("p6 steps of bits", house, newTarget(house, DECLARE + ACT + COUNT, 2, 0, 0), 5, 5, 2);
        due("p6 the cell was not counted", house.cell(2), 0);
        due("p6 the needed has its own steps", house.run(newTarget(house, ACT, 3, 0, 1)), 3);
        int counted = newTarget(house, ACT + COUNT + AMOUNT, 2, 0, 0);
        dueFailure("p6 behind a cell", house, counted, 5, 6, counted);
        due("p6 the cell stays", house.cell(4), 1);
        due("p6 the provider is gone", house.provider(counted, 2), 0);
        RuleHouse2 single = new RuleHouse2(1);
        int twice = newTarget(single, DECLARE + DECLARE_AGAIN, 0, 0, 0);
        dueFailure("p6 STEPS ahead of DOUBLE", single, twice, 5, 1, twice);
        int keeper = newTarget(house, ACT + KEEP, 3, 0, 0);
        dueFailure("p6 STEPS ahead of a handle", house, keeper, 5, 7, keeper);
        due("p6 no handle", handleThrows(house, 0), false);
    }

    private static void promise6RunRoom() {
        RuleHouse2 house = new RuleHouse2(21);
        house.rule(0, ACT, false);
        house.rule(0, ACT + AMOUNT, false);
        house.rule(0, DECLARE + ACT, false);
        for (int i = 0; i < 19; i++) {
            house.target(0);
            house.attribute(i, 0, 20);
            due("p6 actions of " + i, house.run(i), 20);
        }
        due("p6 target", house.target(1), 19);
        house.attribute(19, 0, 20);
        dueFailure("p6 gone ones leave their room", house, 19, 5, 6, 19);
        due("p6 380 actions", house.action(379, 0), 18);
        due("p6 380 actions", house.action(380, 0), -1);
        house.target(0);
        house.attribute(20, 0, 15);
        due("p6 395 actions", house.run(20), 15);
        house.target(0);
        house.attribute(21, 0, 6);
        dueFailure("p6 ROOM", house, 21, 7, 2, 21);
        due("p6 room's actions are gone", house.action(395, 0), -1);
        house.target(0);
        house.attribute(22, 0, 5);
        due("p6 400 actions", house.run(22), 5);
        due("p6 the last action", house.action(399, 1), 4);
        due("p6 no action 400", house.action(400, 0), -1);
        house.target(0);
        due("p6 none is asked for", house.run(23), 0);
        house.target(0);
        house.attribute(24, 0, 1);
        dueFailure("p6 ROOM at once", house, 24, 7, 2, 24);
        promise6StepAheadOfRoom();
    }

    private static void promise6StepAheadOfRoom() {
        RuleHouse2 house = new RuleHouse2(20);
        house.rule(0, ACT, false);
        house.rule(0, DECLARE + ACT, false);
        for (int i = 0; i < 21; i++) {
            house.target(0);
            house.attribute(i, 0, i == 20 ? 2 : 19);
            due("p6 actions", house.run(i), i == 20 ? 2 : 19);
        }
        house.target(1);
        house.attribute(21, 0, 19);
        dueFailure("p6 the 19th has neither step nor room", house, 21, 5, 2, 21);
        house.target(0);
        house.attribute(22, 0, 18);
        due("p6 400 actions", house.run(22), 18);
        house.target(1);
        house.attribute(23, 0, 19);
        dueFailure("p6 the first has a step, no room", house, 23, 7, 2, 23);
    }

    private static void promise6RunLongChain() {
        RuleHouse2 house = new RuleHouse2(100);
        house.rule(0, AMOUNT + KEEP, false);
        house.rule(0, ONE_MORE + KEEP, false);
        for (int i = 0; i < 40; i++) {
            house.target(i == 0 ? 0 : 1);
            house.attribute(i, 2, i);
        }
        house.attribute(0, 0, 20);
        house.attribute(0, 3, 1);
        due("p6 a chain of all targets", house.run(39), 0);
        due("p6 one more at each", house.provider(39, 0), 19);
        due("p6 all were run", house.failed(0, 0) + house.failed(17, 0), 0);
        due("p13 40 handles", handleThrows(house, 39), true);
        due("p13 no more", handleThrows(house, 40), false);
    }

    private static void promise7Action() {
        RuleHouse2 house = new RuleHouse2(100);
        house.rule(3, 255 - DECLARE - ONE_MORE, false);
        house.rule(0, ACT, false);
        house.rule(0, ACT + QUOTIENT, false);
        house.target(1);
        house.target(2);
        house.target(0);
        house.attribute(0, 0, 2);
        house.attribute(1, 0, 2);
        house.attribute(2, 0, 3);
        house.attribute(2, 1, 1);
        due("p7 none yet", house.action(0, 2), -1);
        house.run(2);
        house.run(1);
        house.run(0);
        int[] targets = {2, 2, 2, 0, 0};
        int[] numbers = {0, 1, 2, 0, 1};
        for (int i = 0; i < 5; i++) {
            due("p7 target of " + i, house.action(i, 0), targets[i]);
            due("p7 number of " + i, house.action(i, 1), numbers[i]);
        }
        due("p7 digest", house.action(0, 2), ((3 * 31 + 238) * 31 + 2) * 31);
        due("p7 digest", house.action(2, 2), ((3 * 31 + 238) * 31 + 2) * 31 + 2);
        due("p7 digest", house.action(4, 2), 4 * 31 * 31 + 1);
        due("p7 what 3", house.action(0, 3), -2);
        due("p7 what -1", house.action(0, -1), -2);
        due("p7 unknown ahead of range", house.action(5, 3), -1);
        for (int number : WRONG_NUMBERS) {
            due("p7 no action " + number, house.action(number, 0), -1);
        }
    }

    private static void promise8Provider() {
        RuleHouse2 house = new RuleHouse2(100);
        int first = newTarget(house, QUOTIENT + COUNT + AMOUNT, 20, -3, 0);
        house.attribute(first, 3, 1);
        due("p8 not run", house.provider(first, 0) + house.provider(first, 1) + house.provider(first, 2), 0);
        house.run(first);
        due("p8 minus the amount", house.provider(first, 0), -20);
        due("p8 the quotient", house.provider(first, 1), -6);
        due("p8 the cell", house.provider(first, 2), 1);
        house.divide(0, 1, 1);
        due("p8 the cell as it was then", house.provider(first, 2), 1);
        int next = newTarget(house, ONE_MORE, 0, 0, first + 1);
        house.run(next);
        due("p8 one more", house.provider(next, 0), -19);
        due("p8 has no quotient", house.provider(next, 1), 0);
        int both = newTarget(house, ONE_MORE + AMOUNT, 7, 0, first + 1);
        house.run(both);
        due("p8 bit 6 comes behind bit 4", house.provider(both, 0), 7);
        int least = newTarget(house, QUOTIENT, 20, Integer.MIN_VALUE, 0);
        house.run(least);
        due("p8 divided by the least", house.provider(least, 1), 0);
        int failed = newTarget(house, QUOTIENT + ONE_MORE, 20, 2, 0);
        house.run(failed);
        due("p8 gone with the failure", house.provider(failed, 1), 0);
        due("p8 no name 3", house.provider(first, 3), 0);
        due("p8 no name -1", house.provider(first, -1), 0);
        for (int number : WRONG_NUMBERS) {
            due("p8 no target " + number, house.provider(number, 0), 0);
        }
    }

    private static void promise9Failed() {
        RuleHouse2 house = new RuleHouse2(100);
        int good = newTarget(house, AMOUNT, 0, 0, 0);
        int bad = newTarget(house, QUOTIENT, 0, 0, 1);
        int byNeed = newTarget(house, AMOUNT, 0, 0, 2);
        int byOthers = newTarget(house, AMOUNT, 0, 0, 3);
        int apart = newTarget(house, AMOUNT, 0, 0, 0);
        due("p9 not run", house.failed(bad, 0), -3);
        due("p9 range ahead of state", house.failed(bad, 3), -2);
        dueFailure("p9 need by others", house, byOthers, 6, 8, bad);
        dueFailure("p9 need", house, byNeed, 6, 8, bad);
        dueFailure("p9 itself", house, bad, 3, 3, bad);
        due("p9 told of the target alone", house.failed(apart, 0), -3);
        for (int what = 0; what < 3; what++) {
            due("p9 without a failure " + what, house.failed(good, what), 0);
        }
        due("p9 what -1", house.failed(bad, -1), -2);
        due("p9 what 3", house.failed(good, 3), -2);
        for (int number : WRONG_NUMBERS) {
            due("p9 no target " + number, house.failed(number, 3), -1);
        }
        due("p9 no target 5", house.failed(5, 0), -1);
    }

    private static void promise9FailedBits() {
        for (int bit = 0; bit < 8; bit++) {
            RuleHouse2 house = new RuleHouse2(0);
            dueFailure("p9 STEPS at bit " + bit, house, newTarget(house, 1 << bit, 0, 0, 0), 5, bit, 0);
            due("p9 no cell is counted", house.cell(0), 0);
        }
        RuleHouse2 house = new RuleHouse2(100);
        house.target(house.rule(2, 0, true));
        house.target(house.rule(2, 1, false));
        house.attribute(1, 2, 1);
        dueFailure("p9 NEED of a START", house, 1, 6, 8, 0);
        dueFailure("p9 START", house, 0, 1, 8, 0);
    }

    private static void promise10Cell() {
        RuleHouse2 house = new RuleHouse2(100);
        house.rule(0, COUNT, false);
        house.rule(1, COUNT, false);
        house.rule(0, COUNT, false);
        house.rule(2, COUNT, true);
        due("p10 not made", house.cell(0), -1);
        house.make(0);
        due("p10 0 at first", house.cell(0), 0);
        house.run(house.target(0));
        house.run(house.target(2));
        due("p10 one cell of a class", house.cell(0), 2);
        due("p10 one cell of a class", house.cell(2), 2);
        due("p10 provider of the second", house.provider(1, 2), 2);
        due("p10 editions share none", house.cell(1), -1);
        house.run(house.target(1));
        due("p10 editions share none", house.cell(1), 1);
        due("p10 editions share none", house.cell(0), 2);
        house.run(house.target(3));
        due("p10 start fails", house.cell(3), -1);
        for (int number : WRONG_NUMBERS) {
            due("p10 no rule " + number, house.cell(number), -1);
        }
    }

    private static void promise11Same() {
        RuleHouse2 house = new RuleHouse2(100);
        house.rule(0, 31, false);
        house.rule(1, 31, false);
        house.rule(0, 30, false);
        house.rule(0, 31, true);
        house.rule(2, 5, true);
        house.rule(2, 5, true);
        house.rule(1, 0, false);
        due("p11 itself", house.same(0, 0), true);
        due("p11 one class", house.same(0, 3), true);
        due("p11 one class", house.same(3, 0), true);
        due("p11 start fails", house.same(4, 5), true);
        due("p11 other edition", house.same(0, 1), false);
        due("p11 other does", house.same(0, 2), false);
        due("p11 both other", house.same(0, 6), false);
        house.make(0);
        due("p11 made", house.same(3, 0), true);
        due("p11 does not make", house.cell(4) + house.cell(1), -2);
        for (int number : WRONG_NUMBERS) {
            due("p11 no rule " + number, house.same(number, 0), false);
            due("p11 no rule " + number, house.same(0, number), false);
            due("p11 neither " + number, house.same(number, number), false);
        }
    }

    private static void promise12Divide() {
        RuleHouse2 house = new RuleHouse2(0);
        house.rule(0, 0, false);
        house.rule(0, 0, true);
        house.rule(1, 0, true);
        house.rule(2, 0, false);
        due("p12 7 / 2", house.divide(0, 7, 2), 3);
        due("p12 made", house.make(0), 0);
        due("p12 -7 / 2", house.divide(1, -7, 2), -3);
        due("p12 least / -1", house.divide(0, Long.MIN_VALUE, -1), Long.MIN_VALUE);
        due("p12 most / 1", house.divide(0, Long.MAX_VALUE, 1), Long.MAX_VALUE);
        due("p12 counted", house.cell(0), 4);
        due("p12 by 0", divideThrows(house, 3, 0, 0), true);
        due("p12 counted ahead of that", house.cell(3), 1);
        due("p12 made by it", house.make(3), 1);
        due("p12 start fails", divideThrows(house, 2, 7, 0), false);
        due("p12 start fails", house.divide(2, 7, 1), 0);
        due("p12 nothing happens", house.cell(2), -1);
        for (int number : WRONG_NUMBERS) {
            due("p12 no rule " + number, divideThrows(house, number, 7, 0), false);
            due("p12 no rule " + number, house.divide(number, 7, 1), 0);
        }
        due("p12 others' cells stay", house.cell(0), 4);
    }

    private static void promise13Handle() {
        RuleHouse2 house = new RuleHouse2(2);
        int keeper = newTarget(house, KEEP, 0, 0, 0);
        due("p13 none yet", handleThrows(house, 0), false);
        house.run(keeper);
        due("p13 kept", handleThrows(house, 0), true);
        due("p13 kept still", handleThrows(house, 0), true);
        due("p13 no second", handleThrows(house, 1), false);
        house.run(keeper);
        due("p13 run once", handleThrows(house, 1), false);
        house.run(newTarget(house, COUNT + KEEP, 0, 0, 1));
        due("p13 a second", handleThrows(house, 1), true);
        house.run(newTarget(house, COUNT + AMOUNT + KEEP, 0, 0, 0));
        due("p13 none of a failure ahead of it", handleThrows(house, 2), false);
        int needs = newTarget(house, ONE_MORE, 0, 0, 1);
        dueFailure("p13 a failure leaves handles", house, needs, 4, 4, needs);
        due("p13 handles stay", handleThrows(house, 1), true);
        for (int number : WRONG_NUMBERS) {
            due("p13 no handle " + number, handleThrows(house, number), false);
        }
    }
}
