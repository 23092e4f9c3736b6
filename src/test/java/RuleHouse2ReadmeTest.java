/** The example of README.md, line by line, with the answers that its comments tell. */
public final class RuleHouse2ReadmeTest {
    private static int wrong = 0;

    private static void due(String call, long got, long want) {
        if (got != want) {
            wrong++;
            System.out.println(call + " answered " + got + ", README.md tells " + want);
        }
    }

    public static void main(String[] args) {
        RuleHouse2 house = new RuleHouse2(20);
        int giver = house.rule(0, 4 + 64, false);
        due("rule(0, 4 + 64, false)", giver, 0);
        int taker = house.rule(1, 16 + 32, false);
        due("rule(1, 16 + 32, false)", taker, 1);
        int first = house.target(giver);
        due("target(giver)", first, 0);
        int second = house.target(taker);
        due("target(taker)", second, 1);
        due("attribute(first, 0, 3)", house.attribute(first, 0, 3), 0);
        due("attribute(second, 2, first + 1)", house.attribute(second, 2, first + 1), 0);
        due("run(second)", house.run(second), 0);
        due("run(first)", house.run(first), 3);
        due("action(2, 2)", house.action(2, 2), 65350);
        due("provider(first, 0)", house.provider(first, 0), 3);
        due("provider(second, 0)", house.provider(second, 0), 4);
        due("cell(taker)", house.cell(taker), 1);
        due("failed(second, 0)", house.failed(second, 0), 0);
        System.out.println(wrong == 0 ? "the example holds" : wrong + " answers are not as told");
        if (wrong != 0) {
            System.exit(1);
        }
    }
}
