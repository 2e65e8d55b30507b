import java.util.function.Supplier;

/** The boundary cases that the document names in its terms and promises 1 to 7, a method for each sentence. */
public final class MemberBoundaryTest {
    private static final Class<IllegalArgumentException> ARGUMENT = IllegalArgumentException.class;
    private static final Class<IllegalStateException> STATE = IllegalStateException.class;
    private static final Class<IndexOutOfBoundsException> INDEX = IndexOutOfBoundsException.class;
    private static final int[] NO_SETS = {-1, 128, 129, 255, 256, Integer.MIN_VALUE, Integer.MAX_VALUE};
    private static final int[] NO_SERVERS = {-1, 7, 8, 31, 32, 33, Integer.MIN_VALUE, Integer.MAX_VALUE};
    private static final Check check = new Check();

    public static void main(String[] args) {
        oldIsNeverEmpty();
        peersAreNotItself();
        moreThanHalfOfOld();
        moreThanHalfOfNewToo();
        whenNewIsEmptyOldAlone();
        itselfIsLowestThreeBits();
        sevenAsSix();
        oldIsLowestSevenBits();
        oneWhenNoneIsSet();
        allZeroOrFalse();
        newPerhapsEmpty();
        membersStay();
        membersOutside0To127();
        membersOldEmpty();
        membersLearnerIsVoter();
        learnersNoMore();
        targetOutside1To127();
        targetOfNeither();
        matchAtLeastLeast();
        changeWhenNewIsNotEmpty();
        settleEnds();
        itselfIsInOldThen();
        settleWhenNewIsEmpty();
        majorityOfSmallestAndLargestSet();
        majorityOutside0To127();
        votesOfNoOne();
        countedOnce();
        ofNoVoterToo();
        voteOfNoSuchServer();
        check.end();
    }

    private static QuorumCouncil council(int itself, int old, int fresh, int learners) {
        QuorumCouncil c = new QuorumCouncil(itself, 1);
        c.members(old, fresh, learners);
        return c;
    }

    private static void oldIsNeverEmpty() {
        check.about("Terms: OLD (never empty)");
        QuorumCouncil c = new QuorumCouncil(0, 0);
        check.due("new", c.council(0), 1);
        c.members(64, 0, 1);
        check.due("members", c.council(0), 64);
        c.change(1, 0);
        c.settle();
        check.due("settle", c.council(0), 1);
    }

    private static void peersAreNotItself() {
        check.about("Terms: PEERS are voters and learners, but not itself");
        check.due("itself in OLD", council(0, 7, 8, 16).council(4), 30);
        check.due("itself in NEW", council(3, 7, 8, 16).council(4), 23);
        check.due("itself a learner", council(4, 7, 8, 16).council(4), 15);
        check.due("itself nowhere", council(6, 7, 8, 16).council(4), 31);
        check.due("none but itself", council(6, 64, 64, 0).council(4), 0);
    }

    private static void moreThanHalfOfOld() {
        check.about("Terms: more than half of OLD");
        int[] all = {1, 3, 7, 15, 31, 63, 127};
        for (int i = 0; i < all.length; i++) {
            int members = i + 1;
            int half = (1 << (members / 2)) - 1;
            QuorumCouncil c = council(0, all[i], 0, 0);
            check.due("half of " + members + ", or less", c.majority(half), false);
            check.due("one more of " + members, c.majority(2 * half + 1), true);
            check.due("half and all others, of " + members, c.majority(half | (127 & ~all[i])), false);
        }
    }

    private static void moreThanHalfOfNewToo() {
        check.about("Terms: and, if NEW is not empty, more than half of NEW");
        QuorumCouncil c = council(0, 7, 120, 0);
        check.due("all of OLD, none of NEW", c.majority(7), false);
        check.due("all of NEW, none of OLD", c.majority(120), false);
        check.due("two of three, two of four", c.majority(3 + 24), false);
        check.due("one of three, three of four", c.majority(1 + 56), false);
        check.due("two of three, three of four", c.majority(3 + 56), true);
        check.due("two of both together are not two of each", council(0, 7, 28, 0).majority(4 + 8), false);
        check.due("one who is in both counts in both", council(0, 7, 28, 0).majority(4 + 8 + 1), true);
    }

    private static void whenNewIsEmptyOldAlone() {
        check.about("Terms: NEW (empty, when no change is under way)");
        check.due("OLD alone", council(0, 7, 0, 0).majority(3), true);
        QuorumCouncil c = council(0, 7, 0, 0);
        c.change(7, 0);
        check.due("a change under way", c.council(1), 7);
        c.settle();
        check.due("none any more", c.council(1), 0);
    }

    private static void itselfIsLowestThreeBits() {
        check.about("1: server itself (0 .. 6; its lowest three bits, 7 as 6)");
        int[] given = {0, 6, 8, 14, 256, -8, -2, Integer.MIN_VALUE};
        int[] due = {0, 6, 0, 6, 0, 0, 6, 0};
        for (int i = 0; i < given.length; i++) {
            check.due("of " + given[i], new QuorumCouncil(given[i], 1).council(7), due[i]);
        }
    }

    private static void sevenAsSix() {
        check.about("1: 7 as 6");
        for (int given : new int[] {7, 15, 127, -1, Integer.MAX_VALUE}) {
            check.due("of " + given, new QuorumCouncil(given, 1).council(7), 6);
        }
        check.due("peers of it", new QuorumCouncil(7, 127).council(4), 63);
    }

    private static void oldIsLowestSevenBits() {
        check.about("1: OLD as the lowest seven bits of old");
        int[] given = {1, 64, 127, 129, 255, -1, -128 + 5, Integer.MAX_VALUE, Integer.MIN_VALUE + 64};
        int[] due = {1, 64, 127, 1, 127, 127, 5, 127, 64};
        for (int i = 0; i < given.length; i++) {
            check.due("of " + given[i], new QuorumCouncil(0, given[i]).council(0), due[i]);
        }
    }

    private static void oneWhenNoneIsSet() {
        check.about("1: (1, when none is set)");
        for (int given : new int[] {0, 128, 256, -128, Integer.MIN_VALUE}) {
            check.due("of " + given, new QuorumCouncil(3, given).council(0), 1);
        }
    }

    private static void allZeroOrFalse() {
        check.about("1: NEW and LEARNERS empty; all of all servers 0 or false; no votes");
        check.due("all", Check.state(new QuorumCouncil(6, 127)),
            "council 127 0 0 127 63 0 0 6" + " | 0 0 0 0 0 0 0 0".repeat(7));
        check.due("NEXT is 0, so the snapshot goes first", new QuorumCouncil(0, 3).sending(1, 0, 9, true), 8);
    }

    private static void newPerhapsEmpty() {
        check.about("2: NEW (perhaps empty)");
        check.due("empty", Check.sets(council(0, 127, 0, 0)), "127 0 0 127 126 0 0 0");
        check.due("full", Check.sets(council(0, 127, 127, 0)), "127 127 0 127 126 0 0 0");
        check.due("NEW parted from OLD", Check.sets(council(0, 1, 126, 0)), "1 126 0 127 126 0 0 0");
        check.due("all others learners", Check.sets(council(0, 64, 0, 63)), "64 0 63 64 126 0 0 0");
        QuorumCouncil c = council(0, 7, 24, 0);
        c.members(7, 0, 24);
        check.due("empty again", Check.sets(c), "7 0 24 7 30 0 0 0");
    }

    private static void membersStay() {
        check.about("2: (votes, and what is kept of servers, stay)");
        QuorumCouncil c = new QuorumCouncil(0, 127);
        c.lead(9, 8);
        c.vote(5);
        c.round();
        c.sending(5, 0, 20, false);
        c.stored(6, 3, 4, 0, 1, 2);
        String due = "council 1 0 0 1 0 32 1 0" + Check.state(c).substring("council 127 0 0 127 126 32 1 0".length());
        c.members(1, 0, 0);
        check.due("of those who are out", Check.state(c), due);
    }

    private static void membersOutside0To127() {
        check.about("2: IllegalArgumentException, when one is not 0 .. 127");
        Supplier<QuorumCouncil> made = () -> council(0, 3, 4, 8);
        for (int w : NO_SETS) {
            check.refuses("OLD " + w, made, ARGUMENT, c -> c.members(w, 0, 0));
            check.refuses("NEW " + w, made, ARGUMENT, c -> c.members(1, w, 0));
            check.refuses("LEARNERS " + w, made, ARGUMENT, c -> c.members(1, 0, w));
        }
    }

    private static void membersOldEmpty() {
        check.about("2: IllegalArgumentException, when OLD is empty");
        Supplier<QuorumCouncil> made = () -> council(0, 3, 4, 8);
        check.refuses("all empty", made, ARGUMENT, c -> c.members(0, 0, 0));
        check.refuses("NEW is not", made, ARGUMENT, c -> c.members(0, 127, 0));
        check.refuses("LEARNERS are not", made, ARGUMENT, c -> c.members(0, 0, 127));
    }

    private static void membersLearnerIsVoter() {
        check.about("2: IllegalArgumentException, when a learner is a voter");
        Supplier<QuorumCouncil> made = () -> council(0, 3, 4, 8);
        check.refuses("of OLD", made, ARGUMENT, c -> c.members(64, 1, 66));
        check.refuses("of NEW", made, ARGUMENT, c -> c.members(1, 64, 66));
        check.refuses("of both", made, ARGUMENT, c -> c.members(127, 127, 127));
        check.refuses("the lowest", made, ARGUMENT, c -> c.members(1, 0, 1));
    }

    private static void learnersNoMore() {
        check.about("3: those in it are learners no more");
        QuorumCouncil c = council(0, 3, 0, 124);
        c.change(2 + 4 + 64, 0);
        check.due("the others are still", Check.sets(c), "3 70 56 71 126 0 0 0");
        QuorumCouncil d = council(0, 1, 0, 126);
        d.change(127, 0);
        check.due("none is left", Check.sets(d), "1 127 0 127 126 0 0 0");
    }

    private static void targetOutside1To127() {
        check.about("3: IllegalArgumentException, when target is not 1 .. 127");
        Supplier<QuorumCouncil> made = () -> council(0, 127, 0, 0);
        check.refuses("0", made, ARGUMENT, c -> c.change(0, 0));
        for (int w : NO_SETS) {
            check.refuses("target " + w, made, ARGUMENT, c -> c.change(w, 0));
            check.refuses("target " + w + " while NEW is not empty", () -> council(0, 127, 127, 0), ARGUMENT,
                c -> c.change(w, 0));
        }
        for (int right : new int[] {1, 64, 127}) {
            QuorumCouncil c = made.get();
            c.change(right, 0);
            check.due("target " + right, c.council(1), right);
        }
    }

    private static void targetOfNeither() {
        check.about("3: or has one who is neither of OLD nor a learner");
        for (int s = 0; s < 7; s++) {
            int one = 1 << s;
            Supplier<QuorumCouncil> made = () -> council(0, 127 & ~one, 0, 0);
            check.refuses("server " + s + " alone", made, ARGUMENT, c -> c.change(one, 0));
            check.refuses("server " + s + " among all", made, ARGUMENT, c -> c.change(127, 0));
        }
        check.refuses("of NEW alone", () -> council(0, 1, 2, 0), ARGUMENT, c -> c.change(2, 0));
    }

    /** Server 1 is of OLD and has nothing, the learner 2 has all up to 5. */
    private static QuorumCouncil learning() {
        QuorumCouncil c = council(0, 3, 0, 4);
        c.lead(9, 0);
        c.matched(2, 5, 0, 0);
        return c;
    }

    private static void matchAtLeastLeast() {
        check.about("3: a learner whose MATCH is at least least");
        check.refuses("one less", MemberBoundaryTest::learning, ARGUMENT, c -> c.change(4, 6));
        check.refuses("much less", MemberBoundaryTest::learning, ARGUMENT, c -> c.change(7, Integer.MAX_VALUE));
        for (int least : new int[] {5, 4, 0, -1, Integer.MIN_VALUE}) {
            QuorumCouncil c = learning();
            c.change(4, least);
            check.due("least " + least, Check.sets(c), "3 4 0 7 6 0 0 0");
        }
        QuorumCouncil c = learning();
        c.change(2, 6);
        check.due("one of OLD needs none", c.council(1), 2);
        QuorumCouncil d = learning();
        d.change(3, 6);
        check.due("a learner outside the target needs none", d.council(2), 4);
    }

    private static void changeWhenNewIsNotEmpty() {
        check.about("3: IllegalStateException, when NEW is not empty");
        check.refuses("by members", () -> council(0, 3, 4, 8), STATE, c -> c.change(1, 0));
        check.refuses("by change", MemberBoundaryTest::changing, STATE, c -> c.change(3, 0));
        check.refuses("to the same again", MemberBoundaryTest::changing, STATE, c -> c.change(1, 0));
        QuorumCouncil c = changing();
        c.settle();
        c.change(1, 0);
        check.due("after it was settled", c.council(1), 1);
        QuorumCouncil d = council(0, 3, 4, 8);
        d.members(3, 0, 8);
        d.change(1, 0);
        check.due("after members emptied it", d.council(1), 1);
    }

    private static QuorumCouncil changing() {
        QuorumCouncil c = new QuorumCouncil(0, 3);
        c.change(1, 0);
        return c;
    }

    private static void settleEnds() {
        check.about("4: OLD is what NEW was, NEW is empty");
        QuorumCouncil c = council(0, 7, 24, 96);
        c.settle();
        check.due("settle", Check.sets(c), "24 0 96 24 120 0 0 0");
    }

    private static void itselfIsInOldThen() {
        check.about("4: whether itself is in OLD then");
        check.due("was and is", council(0, 1, 3, 0).settle(), true);
        check.due("was, is not", council(0, 1, 2, 0).settle(), false);
        check.due("was not, is", council(6, 1, 64, 0).settle(), true);
        check.due("neither", council(6, 1, 2, 64).settle(), false);
    }

    private static void settleWhenNewIsEmpty() {
        check.about("4: IllegalStateException, when NEW is empty");
        check.refuses("a new object", () -> new QuorumCouncil(0, 7), STATE, c -> c.settle());
        check.refuses("members made it so", MemberBoundaryTest::emptied, STATE, c -> c.settle());
        check.refuses("settled already", MemberBoundaryTest::settled, STATE, c -> c.settle());
    }

    private static QuorumCouncil emptied() {
        QuorumCouncil c = council(0, 3, 4, 8);
        c.members(3, 0, 8);
        return c;
    }

    private static QuorumCouncil settled() {
        QuorumCouncil c = changing();
        c.settle();
        return c;
    }

    private static void majorityOfSmallestAndLargestSet() {
        check.about("5: Whether a set is a majority");
        check.due("the empty one", new QuorumCouncil(0, 1).majority(0), false);
        check.due("the empty one of two sets", council(0, 1, 1, 0).majority(0), false);
        check.due("all", new QuorumCouncil(0, 127).majority(127), true);
        check.due("all of two sets", council(0, 1, 126, 0).majority(127), true);
        check.due("learners alone", council(0, 1, 0, 126).majority(126), false);
    }

    private static void majorityOutside0To127() {
        check.about("5: IllegalArgumentException, when it is not 0 .. 127");
        for (int w : NO_SETS) {
            check.refuses("set " + w, () -> new QuorumCouncil(0, 127), ARGUMENT, c -> c.majority(w));
        }
    }

    private static void votesOfNoOne() {
        check.about("6: The votes are those of no one");
        QuorumCouncil c = new QuorumCouncil(0, 127);
        c.ballot();
        check.due("none there", c.council(5), 0);
        for (int s = 0; s < 7; s++) {
            c.vote(s);
        }
        check.due("all", c.council(5), 127);
        c.ballot();
        check.due("none again", c.council(5), 0);
        check.due("they count anew", c.vote(0), false);
    }

    private static void countedOnce() {
        check.about("7: (counted once)");
        QuorumCouncil c = new QuorumCouncil(0, 7);
        for (int n = 0; n < 5; n++) {
            check.due("vote(1), time " + n, c.vote(1), false);
        }
        check.due("the votes", c.council(5), 2);
        check.due("vote(0)", c.vote(0), true);
        check.due("vote(1) again", c.vote(1), true);
        check.due("all of them", c.council(5), 3);
    }

    private static void ofNoVoterToo() {
        check.about("7: (of one who is no voter, too)");
        QuorumCouncil c = council(0, 7, 0, 8);
        check.due("a learner", c.vote(3), false);
        check.due("nobody", c.vote(6), false);
        check.due("the votes", c.council(5), 72);
        check.due("one of three", c.vote(2), false);
        check.due("two of three", c.vote(1), true);
    }

    private static void voteOfNoSuchServer() {
        check.about("7: IndexOutOfBoundsException, when there is no such server");
        for (int w : NO_SERVERS) {
            check.refuses("server " + w, () -> new QuorumCouncil(0, 127), INDEX, c -> c.vote(w));
        }
        QuorumCouncil c = new QuorumCouncil(0, 65);
        check.due("the first", c.vote(0), false);
        check.due("the last", c.vote(6), true);
    }
}
