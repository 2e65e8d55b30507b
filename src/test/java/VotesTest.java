/** Promises 6 and 7: ballot, vote. */
public final class VotesTest {
    private static final Check check = new Check();

    public static void main(String[] args) {
        votesAreCountedOnce();
        votesOfOthersAreKept();
        votesOfJointMajorities();
        ballotForgetsVotesAlone();
        wrongServers();
        check.end();
    }

    private static void votesAreCountedOnce() {
        QuorumCouncil c = new QuorumCouncil(0, 31);
        check.due("vote(1)", c.vote(1), false);
        check.due("vote(1) again", c.vote(1), false);
        check.due("vote(1) once more", c.vote(1), false);
        check.due("vote(2)", c.vote(2), false);
        check.due("vote(4)", c.vote(4), true);
        check.due("vote(4) again", c.vote(4), true);
        check.due("the votes", c.council(5), 22);
    }

    private static void votesOfOthersAreKept() {
        QuorumCouncil c = new QuorumCouncil(0, 7);
        c.members(7, 0, 8);
        check.due("a learner's", c.vote(3), false);
        check.due("a stranger's", c.vote(6), false);
        check.due("a voter's", c.vote(0), false);
        check.due("the votes", c.council(5), 73);
        c.members(73, 0, 0);
        check.due("they count when they are voters", c.vote(6), true);
    }

    private static void votesOfJointMajorities() {
        QuorumCouncil c = new QuorumCouncil(0, 7);
        c.members(7, 56, 0);
        check.due("0", c.vote(0), false);
        check.due("1", c.vote(1), false);
        check.due("2", c.vote(2), false);
        check.due("3", c.vote(3), false);
        check.due("4", c.vote(4), true);
    }

    private static void ballotForgetsVotesAlone() {
        QuorumCouncil c = new QuorumCouncil(1, 7);
        c.members(7, 0, 8);
        c.lead(4, 2);
        c.sending(0, 0, 9, false);
        c.round();
        String before = Check.state(c);
        c.vote(0);
        c.vote(6);
        check.due("the votes", c.council(5), 65);
        c.ballot();
        check.due("after ballot()", Check.state(c), before);
        check.due("a vote after it", c.vote(1), false);
    }

    private static void wrongServers() {
        for (int w : new int[] {-1, 7, 8, 32, Integer.MIN_VALUE, Integer.MAX_VALUE}) {
            check.refuses("vote(" + w + ")", () -> new QuorumCouncil(0, 1), IndexOutOfBoundsException.class,
                c -> c.vote(w));
        }
        QuorumCouncil c = new QuorumCouncil(0, 1);
        check.due("vote(6)", c.vote(6), false);
        check.due("vote(0)", c.vote(0), true);
    }
}
