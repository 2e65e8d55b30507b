import java.util.Arrays;
import java.util.Map;
import java.util.Random;
import java.util.TreeMap;

/** Promises 1 to 17 in mixed runs of all lengths: every answer and exception, and the state at the end, is the model's. */
public final class ModelTest {
    private static final int RUNS = 8000;
    // The 64 views of the state at the end are calls, too: with them no object goes beyond 512.
    private static final int MOST_CALLS = 512 - 64;
    private static final int MOST = 1000000000;
    private static final int[] WILD = {-1, Integer.MIN_VALUE, Integer.MAX_VALUE, MOST + 1, MOST, MOST - 1, 7, 8, 127, 128};
    // Names stand more often where more is to be found; the letters say what an argument is.
    private static final String[] CALLED = {
        "members sss", "change sn", "change sn", "settle", "settle", "majority s", "ballot", "vote p", "vote p",
        "lead nt", "round", "round", "sending pbn?", "sending pbn?", "sending pbn?", "sending pbn?", "sending pbn?",
        "matched pnrt", "matched pnrt", "matched pnrt", "refused pnnrt", "stored pnnnrt", "own nt", "own nt",
        "agreed k", "agreed k", "server pw", "council w"};

    private final Random random;
    private final Check check;
    private final Map<String, Integer> answers;
    private int members = 1;

    private ModelTest(long seed, Check check, Map<String, Integer> answers) {
        this.random = new Random(seed);
        this.check = check;
        this.answers = answers;
    }

    public static void main(String[] args) {
        Check check = new Check();
        Map<String, Integer> answers = new TreeMap<>();
        for (int run = 0; run < RUNS; run++) {
            new ModelTest(run, check, answers).run(run);
        }
        everyExceptionWasMet(check, answers);
        check.end();
    }

    private static void everyExceptionWasMet(Check check, Map<String, Integer> answers) {
        String[] due = {"members IllegalArgument", "change IllegalArgument", "change IllegalState", "settle IllegalState",
            "majority IllegalArgument", "vote IndexOutOfBounds", "lead IllegalArgument", "sending IndexOutOfBounds",
            "sending IllegalArgument", "matched IndexOutOfBounds", "matched IllegalArgument", "refused IndexOutOfBounds",
            "refused IllegalArgument", "stored IndexOutOfBounds", "stored IllegalArgument", "own IllegalArgument",
            "agreed IllegalArgument", "server IndexOutOfBounds", "change 0", "settle 0", "settle 1", "sending 0",
            "sending 1", "sending 2", "sending 3", "sending 4", "sending 5", "sending 6", "sending 7", "sending 8"};
        for (String one : due) {
            if (answers.getOrDefault(one, 0) < 100) {
                check.tell("the runs met " + one + " too seldom: " + answers.get(one));
            }
        }
    }

    private void run(int run) {
        int itself = random.nextInt();
        int old = random.nextInt(4) == 0 ? random.nextInt() : random.nextInt(128);
        QuorumCouncil council = new QuorumCouncil(itself, old);
        Model model = new Model(itself, old);
        StringBuilder told = new StringBuilder("new(" + itself + ", " + old + ")");
        // Many short runs: what a wrong call left is seen before a later one hides it.
        int calls = 1 + random.nextInt(1 + random.nextInt(MOST_CALLS));
        for (int n = 0; n < calls; n++) {
            String[] form = CALLED[random.nextInt(CALLED.length)].split(" ");
            int[] a = arguments(form.length > 1 ? form[1] : "");
            String due = answer(() -> model.call(form[0], a));
            String got = answer(() -> call(council, form[0], a));
            told.append('\n').append(form[0]).append(Arrays.toString(a)).append(" -> ").append(got);
            if (!got.equals(due)) {
                check.tell("run " + run + ":\n" + told + "\ndue is " + due);
                return;
            }
            answers.merge(form[0] + " " + got, 1, Integer::sum);
        }
        check.due("run " + run + ":\n" + told + "\nthe state", Check.state(council), state(model));
    }

    private int[] arguments(String form) {
        int[] a = new int[form.length()];
        for (int i = 0; i < a.length; i++) {
            a[i] = random.nextInt(40) == 0 ? WILD[random.nextInt(WILD.length)] : argument(form.charAt(i));
        }
        if (form.equals("sss")) {
            partTheLearners(a);
        }
        return a;
    }

    private int argument(char kind) {
        switch (kind) {
            case 's': return random.nextInt(3) == 0 ? random.nextInt(128) : members & random.nextInt(128);
            case 'p': return random.nextInt(7);
            case 'b': return random.nextInt(2) == 0 ? 0 : random.nextInt(30);
            case 'n': return random.nextInt(30);
            case 'r': return random.nextInt(9);
            case 't': return random.nextInt(90);
            case 'k': return random.nextInt(3);
            case 'w': return random.nextInt(8);
            default: return random.nextInt(2);
        }
    }

    /** Mostly learners who are no voters and no change under way, so that runs go on to somewhere. */
    private void partTheLearners(int[] a) {
        if (random.nextInt(5) != 0) {
            a[0] = random.nextInt(127) + 1;
            a[1] = random.nextInt(2) == 0 ? 0 : random.nextInt(128);
            a[2] = random.nextInt(128) & ~(a[0] | a[1]);
            members = a[0] | a[2];
        }
    }

    private interface Asked {
        long ask();
    }

    private static String answer(Asked asked) {
        try {
            return Long.toString(asked.ask());
        } catch (RuntimeException e) {
            return e.getClass().getSimpleName().replace("Exception", "");
        }
    }

    private static String state(Model model) {
        StringBuilder text = new StringBuilder("council");
        for (int what = 0; what < 8; what++) {
            text.append(' ').append(model.call("council", new int[] {what}));
        }
        for (int server = 0; server < 7; server++) {
            text.append(" |");
            for (int what = 0; what < 8; what++) {
                text.append(' ').append(model.call("server", new int[] {server, what}));
            }
        }
        return text.toString();
    }

    private static long call(QuorumCouncil c, String name, int[] a) {
        switch (name) {
            case "members": c.members(a[0], a[1], a[2]); return 0;
            case "change": c.change(a[0], a[1]); return 0;
            case "settle": return c.settle() ? 1 : 0;
            case "majority": return c.majority(a[0]) ? 1 : 0;
            case "ballot": c.ballot(); return 0;
            case "vote": return c.vote(a[0]) ? 1 : 0;
            case "lead": c.lead(a[0], a[1]); return 0;
            case "round": return c.round();
            case "sending": return c.sending(a[0], a[1], a[2], a[3] != 0);
            case "matched": return c.matched(a[0], a[1], a[2], a[3]);
            case "refused": return c.refused(a[0], a[1], a[2], a[3], a[4]);
            case "stored": return c.stored(a[0], a[1], a[2], a[3], a[4], a[5]) ? 1 : 0;
            case "own": c.own(a[0], a[1]); return 0;
            case "agreed": return c.agreed(a[0]);
            case "server": return c.server(a[0], a[1]);
            case "council": return c.council(a[0]);
            default: throw new AssertionError(name);
        }
    }
}
