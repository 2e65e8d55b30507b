import java.util.function.Supplier;

/** Promises 1 to 5: a new object, members, change, settle, majority. */
public final class MembersTest {
    private static final Check check = new Check();

    public static void main(String[] args) {
        newObject();
        members();
        membersRefusesWrongSets();
        membersKeepsTheRest();
        change();
        changeNeedsTarget();
        changeWhileOneIsUnderWay();
        settle();
        majorityOfOld();
        majorityOfBoth();
        check.end();
    }

    private static void newObject() {
        for (int itself = 0; itself < 7; itself++) {
            check.due("itself", new QuorumCouncil(itself, 1).council(7), itself);
        }
        check.due("itself of 7", new QuorumCouncil(7, 1).council(7), 6);
        check.due("itself of 8", new QuorumCouncil(8, 1).council(7), 0);
        check.due("itself of 13", new QuorumCouncil(13, 1).council(7), 5);
        check.due("itself of -1", new QuorumCouncil(-1, 1).council(7), 6);
        check.due("itself of -8", new QuorumCouncil(-8, 1).council(7), 0);
        check.due("itself of -5", new QuorumCouncil(-5, 1).council(7), 3);
        check.due("OLD of 0", new QuorumCouncil(3, 0).council(0), 1);
        check.due("OLD of 128", new QuorumCouncil(3, 128).council(0), 1);
        check.due("OLD of 127", new QuorumCouncil(3, 127).council(0), 127);
        check.due("OLD of 192", new QuorumCouncil(3, 192).council(0), 64);
        check.due("OLD of -1", new QuorumCouncil(3, -1).council(0), 127);
        check.due("OLD of the least int", new QuorumCouncil(3, Integer.MIN_VALUE).council(0), 1);
        String none = " | 0 0 0 0 0 0 0 0";
        check.due("a new object", Check.state(new QuorumCouncil(2, 21)),
            "council 21 0 0 21 17 0 0 2" + none.repeat(7));
    }

    private static void members() {
        QuorumCouncil c = new QuorumCouncil(0, 1);
        c.members(7, 24, 96);
        check.due("members", Check.sets(c), "7 24 96 31 126 0 0 0");
        c.members(127, 127, 0);
        check.due("all twice", Check.sets(c), "127 127 0 127 126 0 0 0");
        c.members(1, 0, 126);
        check.due("NEW empty", Check.sets(c), "1 0 126 1 126 0 0 0");
    }

    private static void membersRefusesWrongSets() {
        Class<IllegalArgumentException> due = IllegalArgumentException.class;
        Supplier<QuorumCouncil> made = () -> council(1, 0, 126);
        for (int w : new int[] {-1, 128, 255, Integer.MIN_VALUE, Integer.MAX_VALUE}) {
            check.refuses("members OLD " + w, made, due, c -> c.members(w, 0, 0));
            check.refuses("members NEW " + w, made, due, c -> c.members(1, w, 0));
            check.refuses("members LEARNERS " + w, made, due, c -> c.members(1, 0, w));
        }
        check.refuses("OLD empty", made, due, c -> c.members(0, 0, 0));
        check.refuses("OLD empty, NEW not", made, due, c -> c.members(0, 3, 0));
        check.refuses("a learner of OLD", made, due, c -> c.members(3, 0, 6));
        check.refuses("a learner of NEW", made, due, c -> c.members(3, 4, 12));
    }

    private static void membersKeepsTheRest() {
        QuorumCouncil c = new QuorumCouncil(0, 7);
        c.lead(5, 2);
        c.vote(1);
        c.round();
        c.sending(1, 0, 9, false);
        c.matched(2, 4, 1, 3);
        String before = Check.state(c);
        c.members(1, 0, 0);
        c.members(7, 0, 0);
        check.due("members there and back", Check.state(c), before);
    }

    private static QuorumCouncil council(int old, int fresh, int learners) {
        QuorumCouncil c = new QuorumCouncil(0, 1);
        c.members(old, fresh, learners);
        return c;
    }

    /** Of the learners 3 to 6, 3 has up to 5 and 4 up to 6. */
    private static QuorumCouncil withLearners() {
        QuorumCouncil c = council(7, 0, 120);
        c.lead(9, 0);
        c.matched(3, 5, 0, 0);
        c.matched(4, 6, 0, 0);
        return c;
    }

    private static void change() {
        QuorumCouncil c = withLearners();
        c.change(25, 5);
        check.due("change", Check.sets(c), "7 25 96 31 126 0 0 0");
        QuorumCouncil d = new QuorumCouncil(0, 7);
        d.change(3, Integer.MAX_VALUE);
        check.due("those of OLD need no MATCH", Check.sets(d), "7 3 0 7 6 0 0 0");
        QuorumCouncil e = council(1, 0, 126);
        e.change(127, Integer.MIN_VALUE);
        check.due("least below all", Check.sets(e), "1 127 0 127 126 0 0 0");
        QuorumCouncil f = new QuorumCouncil(0, 7);
        f.change(7, 0);
        check.due("a change to the same", Check.sets(f), "7 7 0 7 6 0 0 0");
    }

    private static void changeNeedsTarget() {
        Class<IllegalArgumentException> due = IllegalArgumentException.class;
        for (int w : new int[] {0, -1, 128, 129, Integer.MIN_VALUE, Integer.MAX_VALUE}) {
            check.refuses("change to " + w, () -> new QuorumCouncil(0, 127), due, c -> c.change(w, 0));
        }
        check.refuses("one who is nobody", () -> council(7, 0, 8), due, c -> c.change(16, 0));
        check.refuses("one of them nobody", () -> council(7, 0, 8), due, c -> c.change(31, 0));
        check.refuses("itself outside", () -> new QuorumCouncil(6, 7), due, c -> c.change(67, 0));
        check.refuses("one short of least", MembersTest::withLearners, due, c -> c.change(24, 6));
        check.refuses("a learner with nothing", MembersTest::withLearners, due, c -> c.change(56, 5));
    }

    private static void changeWhileOneIsUnderWay() {
        Class<IllegalArgumentException> wrong = IllegalArgumentException.class;
        Supplier<QuorumCouncil> made = () -> council(7, 24, 32);
        check.refuses("change", made, IllegalStateException.class, c -> c.change(7, 0));
        check.refuses("change to a learner", made, IllegalStateException.class, c -> c.change(32, 0));
        check.refuses("no target", made, wrong, c -> c.change(0, 0));
        check.refuses("a target of nobody", made, wrong, c -> c.change(64, 0));
        check.refuses("a target of NEW alone", made, wrong, c -> c.change(8, 0));
        check.refuses("a learner who has too little", made, wrong, c -> c.change(32, 1));
    }

    private static void settle() {
        check.due("after it", Check.sets(settled()), "10 0 64 10 72 0 0 1");
        check.refuses("settle", () -> new QuorumCouncil(1, 7), IllegalStateException.class, c -> c.settle());
        check.refuses("settle again", MembersTest::settled, IllegalStateException.class, c -> c.settle());
        QuorumCouncil c = settled();
        c.change(8, 0);
        check.due("settle without itself", c.settle(), false);
        check.due("after that", Check.sets(c), "8 0 64 8 72 0 0 1");
        QuorumCouncil d = council(1, 2, 0);
        check.due("itself was in OLD before", d.settle(), false);
    }

    private static QuorumCouncil settled() {
        QuorumCouncil c = new QuorumCouncil(1, 7);
        c.members(7, 10, 64);
        check.due("settle with itself", c.settle(), true);
        return c;
    }

    private static void majorityOfOld() {
        for (int old = 1; old < 128; old++) {
            QuorumCouncil c = new QuorumCouncil(0, old);
            for (int set = 0; set < 128; set++) {
                check.due("majority of " + set + " in " + old, c.majority(set), moreThanHalf(set, old));
            }
        }
        for (int w : new int[] {-1, 128, 129, Integer.MIN_VALUE, Integer.MAX_VALUE}) {
            check.refuses("majority of " + w, () -> new QuorumCouncil(0, 7), IllegalArgumentException.class,
                c -> c.majority(w));
        }
    }

    private static void majorityOfBoth() {
        for (int old = 1; old < 128; old += 3) {
            for (int fresh = 1; fresh < 128; fresh++) {
                QuorumCouncil c = new QuorumCouncil(0, 1);
                c.members(old, fresh, 0);
                for (int set = 0; set < 128; set++) {
                    check.due("majority of " + set + " in " + old + " and " + fresh, c.majority(set),
                        moreThanHalf(set, old) && moreThanHalf(set, fresh));
                }
            }
        }
    }

    private static boolean moreThanHalf(int set, int whole) {
        int inside = 0;
        int outside = 0;
        for (int bit = 1; bit < 128; bit *= 2) {
            if ((whole & bit) != 0) {
                if ((set & bit) != 0) {
                    inside++;
                } else {
                    outside++;
                }
            }
        }
        return inside > outside;
    }
}
