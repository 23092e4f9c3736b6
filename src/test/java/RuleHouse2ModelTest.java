import java.util.ArrayList;
import java.util.HashMap;
import java.util.List;
import java.util.Map;
import java.util.Random;

/** Drawn runs of calls on RuleHouse2, each answer beside that of a second telling of the document. */
public final class RuleHouse2ModelTest {
    private static final int RUNS = 4000;
    private static final int CALLS = 512;

    private static final class Failure extends Exception {
        private static final long serialVersionUID = 1L;
        final int number;

        Failure(int number) {
            this.number = number;
        }
    }

    private record Rule(int edition, int does) {
    }

    private record Action(int target, int number, int digest) {
    }

    private static final class Goal {
        Rule rule;
        final int[] attributes = new int[4];
        boolean run;
        final Map<Integer, Integer> providers = new HashMap<>();
        final List<Action> actions = new ArrayList<>();
        int steps;
        boolean declared;
        int failure;
        int bit;
        int began;
    }

    /** Keeps the actions with their targets, and counts them anew whenever they are asked for. */
    private static final class Model {
        final int allowed;
        final List<Rule> rules = new ArrayList<>();
        final Map<Rule, Boolean> startFails = new HashMap<>();
        final Map<Rule, Integer> classes = new HashMap<>();
        final Map<Rule, Long> cells = new HashMap<>();
        final List<Goal> goals = new ArrayList<>();
        final List<Goal> runInOrder = new ArrayList<>();
        int handles;

        Model(int steps) {
            allowed = steps < 0 ? 0 : steps > 65536 ? 65536 : steps;
        }

        boolean noRule(int rule) {
            return rule < 0 || rule >= rules.size();
        }

        boolean noGoal(int target) {
            return target < 0 || target >= goals.size();
        }

        long rule(int edition, int does, boolean fails) {
            if (edition < 0 || edition > 3 || does < 0 || does > 255) return -2;
            if (rules.size() == 16) return -4;
            Rule rule = new Rule(edition, does);
            rules.add(rule);
            startFails.putIfAbsent(rule, fails);
            return rules.size() - 1;
        }

        int load(Rule rule) {
            if (startFails.get(rule)) return -1;
            if (!classes.containsKey(rule)) {
                classes.put(rule, classes.size());
                cells.put(rule, 0L);
            }
            return classes.get(rule);
        }

        long make(int rule) {
            return noRule(rule) ? -1 : load(rules.get(rule));
        }

        long attribute(int target, int name, int v) {
            if (noGoal(target) || name < 0 || name > 3) return -1;
            int[] most = {20, Integer.MAX_VALUE, target, 1};
            int least = name == 1 ? Integer.MIN_VALUE : 0;
            if (v < least || v > most[name]) return -2;
            Goal goal = goals.get(target);
            if (goal.run) return -3;
            int was = goal.attributes[name];
            goal.attributes[name] = v;
            return was;
        }

        long target(int rule) {
            if (noRule(rule)) return -1;
            if (goals.size() == 40) return -4;
            Goal goal = new Goal();
            goal.rule = rules.get(rule);
            goals.add(goal);
            return goals.size() - 1;
        }

        long run(int target) {
            if (noGoal(target)) return -1;
            Goal goal = goals.get(target);
            if (!goal.run) {
                goal.run = true;
                goal.bit = 8;
                goal.began = target + 1;
                try {
                    perform(goal, target);
                } catch (Failure f) {
                    goal.failure = f.number;
                    goal.actions.clear();
                    goal.providers.clear();
                }
            }
            return goal.failure > 0 ? -10 - goal.failure : goal.actions.size();
        }

        void perform(Goal goal, int target) throws Failure {
            if (load(goal.rule) < 0) throw new Failure(1);
            Goal needed = null;
            if (goal.attributes[2] > 0) {
                needed = goals.get(goal.attributes[2] - 1);
                if (run(goal.attributes[2] - 1) < 0) {
                    goal.began = needed.began;
                    throw new Failure(6);
                }
            }
            runInOrder.add(goal);
            for (goal.bit = 0; goal.bit < 8; goal.bit++) {
                if ((goal.rule.does() & (1 << goal.bit)) != 0) {
                    step(goal);
                    bit(goal, needed, target);
                }
            }
        }

        void step(Goal goal) throws Failure {
            goal.steps++;
            if (goal.steps > allowed) throw new Failure(5);
        }

        void bit(Goal goal, Goal needed, int target) throws Failure {
            int amount = goal.attributes[0];
            if (goal.bit < 2) {
                if (goal.declared) throw new Failure(2);
                goal.declared = true;
            } else if (goal.bit == 2) {
                for (int n = 0; n < amount; n++) {
                    step(goal);
                    if (actions().size() == 400) throw new Failure(7);
                    int of = goal.rule.edition() * 29791 + goal.rule.does() * 961 + target * 31 + n;
                    goal.actions.add(new Action(target, n, of));
                }
            } else if (goal.bit == 3) {
                if (goal.attributes[1] == 0) throw new Failure(3);
                goal.providers.put(1, amount / goal.attributes[1]);
            } else if (goal.bit == 4) {
                if (needed == null || !needed.providers.containsKey(0)) throw new Failure(4);
                goal.providers.put(0, needed.providers.get(0) + 1);
            } else if (goal.bit == 5) {
                goal.providers.put(2, cells.merge(goal.rule, 1L, Long::sum).intValue());
            } else if (goal.bit == 6) {
                goal.providers.put(0, goal.attributes[3] == 1 ? -amount : amount);
            } else if (handles < 40) {
                handles++;
            }
        }

        List<Action> actions() {
            List<Action> all = new ArrayList<>();
            for (Goal goal : runInOrder) all.addAll(goal.actions);
            return all;
        }

        long action(int i, int what) {
            List<Action> all = actions();
            if (i < 0 || i >= all.size()) return -1;
            Action a = all.get(i);
            return what == 0 ? a.target() : what == 1 ? a.number() : what == 2 ? a.digest() : -2;
        }

        long provider(int target, int name) {
            return noGoal(target) ? 0 : goals.get(target).providers.getOrDefault(name, 0);
        }

        long failed(int target, int what) {
            if (noGoal(target)) return -1;
            if (what < 0 || what > 2) return -2;
            Goal goal = goals.get(target);
            if (!goal.run) return -3;
            if (goal.failure == 0) return 0;
            return what == 0 ? goal.failure : what == 1 ? goal.bit : goal.began;
        }

        long cell(int rule) {
            return noRule(rule) ? -1 : cells.getOrDefault(rules.get(rule), -1L);
        }

        long same(int a, int b) {
            return !noRule(a) && !noRule(b) && rules.get(a).equals(rules.get(b)) ? 1 : 0;
        }

        long divide(int rule, long a, long by) {
            if (noRule(rule) || load(rules.get(rule)) < 0) return 0;
            cells.merge(rules.get(rule), 1L, Long::sum);
            return a / by;
        }

        long handle(int kept) {
            if (kept >= 0 && kept < handles) throw new IllegalStateException();
            return -1;
        }
    }

    /** One drawn call: its kind and what it is called with. */
    private record Call(int kind, int a, int b, int c, long d, long e) {
        long onHouse(RuleHouse2 x) {
            switch (kind) {
                case 0: return x.rule(a, b, c == 1);
                case 1: return x.make(a);
                case 2: return x.attribute(a, b, c);
                case 3: return x.target(a);
                case 4: return x.run(a);
                case 5: return x.action(a, b);
                case 6: return x.provider(a, b);
                case 7: return x.failed(a, b);
                case 8: return x.cell(a);
                case 9: return x.same(a, b) ? 1 : 0;
                case 10: return x.divide(a, d, e);
                default: return x.handle(a);
            }
        }

        long onModel(Model x) {
            switch (kind) {
                case 0: return x.rule(a, b, c == 1);
                case 1: return x.make(a);
                case 2: return x.attribute(a, b, c);
                case 3: return x.target(a);
                case 4: return x.run(a);
                case 5: return x.action(a, b);
                case 6: return x.provider(a, b);
                case 7: return x.failed(a, b);
                case 8: return x.cell(a);
                case 9: return x.same(a, b);
                case 10: return x.divide(a, d, e);
                default: return x.handle(a);
            }
        }
    }

    private static String told(Call call, RuleHouse2 house, Model model) {
        try {
            return String.valueOf(house != null ? call.onHouse(house) : call.onModel(model));
        } catch (RuntimeException e) {
            return "throws." + e.getClass().getSimpleName();
        }
    }

    private static final int[] WILD = {-1, -2, 16, 40, 400, 256, Integer.MIN_VALUE, Integer.MAX_VALUE};

    private static int number(Random draw, int below) {
        return draw.nextInt(40) == 0 ? WILD[draw.nextInt(WILD.length)] : draw.nextInt(below + 1);
    }

    private static int value(Random draw, int name, int target) {
        if (draw.nextInt(30) == 0) return WILD[draw.nextInt(WILD.length)];
        switch (name) {
            case 0: return draw.nextInt(3) == 0 ? draw.nextInt(22) : 20 - draw.nextInt(3);
            case 1: return draw.nextInt(9) - 3;
            case 2: return draw.nextBoolean() ? target : draw.nextInt(Math.max(1, Math.abs(target % 64)) + 1);
            default: return draw.nextInt(3) - draw.nextInt(2);
        }
    }

    /** Bits that fail easily are drawn less often, so that chains and full rooms come about too. */
    private static int does(Random draw, boolean crowded) {
        int bits = draw.nextInt(256);
        if (crowded) bits = (bits | 4) & ~(2 | 8 | 16);
        if (draw.nextInt(4) != 0) bits &= ~2;
        if (draw.nextInt(3) != 0) bits &= ~16;
        if (draw.nextInt(2) != 0) bits |= 64;
        return draw.nextInt(40) == 0 ? WILD[draw.nextInt(WILD.length)] : bits;
    }

    private static Call drawn(Random draw, int made, Model model, boolean crowded) {
        int targets = model.goals.size();
        int rules = model.rules.size();
        int furnished = crowded ? 200 : 70;
        int kind = made < 10 ? 0 : made < furnished && draw.nextInt(30) > 0 ? 2 + draw.nextInt(2) : draw.nextInt(12);
        if (crowded && made >= furnished && draw.nextInt(3) == 0) kind = 4;
        switch (kind) {
            case 0: {
                boolean again = rules > 0 && draw.nextInt(3) == 0;
                int d = again ? model.rules.get(draw.nextInt(rules)).does() : does(draw, crowded);
                return new Call(0, number(draw, 3), d, draw.nextInt(8) == 0 ? 1 : 0, 0, 0);
            }
            case 2: {
                int target = number(draw, targets);
                int name = crowded && draw.nextInt(3) > 0 ? 0 : number(draw, 4);
                return new Call(2, target, name, value(draw, name, target), 0, 0);
            }
            case 4:
                return new Call(4, number(draw, targets), 0, 0, 0, 0);
            case 5:
                return new Call(5, number(draw, model.actions().size()), number(draw, 3), 0, 0, 0);
            case 6:
            case 7:
                return new Call(kind, number(draw, targets), number(draw, 3), 0, 0, 0);
            case 10: {
                long a = draw.nextInt(6) == 0 ? Long.MIN_VALUE : draw.nextLong();
                return new Call(10, number(draw, rules), 0, 0, a, draw.nextInt(5) - 2);
            }
            case 11:
                return new Call(11, number(draw, model.handles), 0, 0, 0, 0);
            default:
                return new Call(kind, number(draw, rules), number(draw, rules), 0, 0, 0);
        }
    }

    private static boolean agrees(int seed, int[] failures) {
        Random draw = new Random(seed);
        boolean crowded = seed % 3 == 0;
        int steps = draw.nextInt(3) == 0 ? draw.nextInt(26) - 1 : 22 + draw.nextInt(9);
        RuleHouse2 house = new RuleHouse2(steps);
        Model model = new Model(steps);
        for (int i = 0; i < CALLS; i++) {
            Call call = drawn(draw, i, model, crowded);
            String due = told(call, null, model);
            String got = told(call, house, null);
            if (!got.equals(due)) {
                System.out.println("seed " + seed + ", call " + i + ": " + call + " answered " + got + ", due is " + due);
                return false;
            }
        }
        for (Goal goal : model.goals) failures[goal.failure]++;
        return true;
    }

    public static void main(String[] args) {
        int wrong = 0;
        int[] failures = new int[8];
        for (int seed = 0; seed < RUNS; seed++) {
            if (!agrees(seed, failures)) wrong++;
        }
        for (int failure = 0; failure < failures.length; failure++) {
            System.out.println("failure " + failure + ": " + failures[failure] + " targets");
            if (failures[failure] == 0) wrong++;
        }
        System.out.println(wrong == 0 ? "all runs agree" : wrong + " runs differ, or failures were never met");
        if (wrong != 0) System.exit(1);
    }
}
