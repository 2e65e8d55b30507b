/** Promises 15, 16 and 17: agreed, server, council. */
public final class ViewsTest {
    private static final int MOST = 1000000000;
    private static final Check check = new Check();

    public static void main(String[] args) {
        agreedOfAnOddNumber();
        agreedOfAnEvenNumber();
        agreedOfJointMajorities();
        agreedLeavesOthersOut();
        agreedOfItselfOutside();
        agreedOfTheGreatest();
        agreedRefusesAnother();
        server();
        serverRefusesWrongOnes();
        council();
        viewsChangeNothing();
        check.end();
    }

    /** MATCH, ACK and HEARD of each server are three different orders of numbers. */
    private static QuorumCouncil filled(int old, int fresh, int learners) {
        QuorumCouncil c = new QuorumCouncil(0, 1);
        c.members(old, fresh, learners);
        c.lead(50, 0);
        int[] match = {9, 4, 7, 1, 12, 3, 20};
        int[] ack = {2, 8, 5, 6, 0, 9, 1};
        int[] heard = {30, 10, 70, 50, 20, 60, 40};
        for (int s = 0; s < 7; s++) {
            c.matched(s, match[s], ack[s], heard[s]);
        }
        return c;
    }

    private static void dueAgreed(String call, QuorumCouncil c, int match, int ack, int heard) {
        check.due(call + ", MATCH", c.agreed(0), match);
        check.due(call + ", ACK", c.agreed(1), ack);
        check.due(call + ", HEARD", c.agreed(2), heard);
    }

    private static void agreedOfAnOddNumber() {
        dueAgreed("one", filled(2, 0, 0), 4, 8, 10);
        dueAgreed("three", filled(7, 0, 0), 7, 5, 30);
        dueAgreed("five", filled(31, 0, 0), 7, 5, 30);
        dueAgreed("seven", filled(127, 0, 0), 7, 5, 40);
    }

    private static void agreedOfAnEvenNumber() {
        dueAgreed("two", filled(3, 0, 0), 4, 2, 10);
        dueAgreed("four", filled(15, 0, 0), 4, 5, 30);
        dueAgreed("six", filled(63, 0, 0), 4, 5, 30);
    }

    private static void agreedOfJointMajorities() {
        dueAgreed("OLD says less of MATCH", filled(7, 80, 0), 7, 0, 20);
        dueAgreed("the same twice", filled(7, 7, 0), 7, 5, 30);
        dueAgreed("parted", filled(7, 56, 0), 3, 5, 30);
        dueAgreed("one each", filled(1, 64, 0), 9, 1, 30);
    }

    private static void agreedLeavesOthersOut() {
        dueAgreed("learners", filled(7, 0, 120), 7, 5, 30);
        QuorumCouncil c = filled(7, 0, 0);
        c.matched(6, MOST, MOST, MOST);
        c.matched(5, MOST, MOST, MOST);
        dueAgreed("strangers", c, 7, 5, 30);
    }

    private static void agreedOfItselfOutside() {
        QuorumCouncil c = filled(14, 0, 0);
        c.own(MOST, MOST);
        dueAgreed("itself is no voter", c, 4, 6, 50);
    }

    private static void agreedOfTheGreatest() {
        QuorumCouncil c = new QuorumCouncil(0, 7);
        dueAgreed("a new object", c, 0, 0, 0);
        c.lead(9, MOST);
        dueAgreed("all HEARD at once", c, 0, 0, MOST);
        c.matched(1, MOST, MOST, MOST);
        dueAgreed("one alone", c, 0, 0, MOST);
        c.matched(2, MOST, MOST, MOST);
        dueAgreed("two", c, MOST, MOST, MOST);
    }

    private static void agreedRefusesAnother() {
        for (int w : new int[] {-1, 3, 4, Integer.MIN_VALUE, Integer.MAX_VALUE}) {
            check.refuses("agreed(" + w + ")", () -> filled(7, 0, 0), IllegalArgumentException.class,
                c -> c.agreed(w));
        }
    }

    private static void server() {
        QuorumCouncil c = new QuorumCouncil(0, 127);
        c.lead(10, 3);
        c.round();
        c.stored(6, 77, 99, 5, 21, 31);
        c.refused(6, 15, 40, 22, 32);
        c.sending(6, 0, 40, false);
        int[] due = {21, 0, 1, 1, 77, 22, 32, 1};
        for (int what = 0; what < 8; what++) {
            check.due("server(6, " + what + ")", c.server(6, what), due[what]);
        }
        c.matched(6, 18, 0, 33);
        c.round();
        int[] later = {21, 18, 0, 0, 77, 22, 33, 0};
        for (int what = 0; what < 8; what++) {
            check.due("server(6, " + what + ") later", c.server(6, what), later[what]);
        }
        check.due("of another", Check.of(c, 5), "11 0 0 1 0 0 3 0");
    }

    private static void serverRefusesWrongOnes() {
        Class<IndexOutOfBoundsException> due = IndexOutOfBoundsException.class;
        for (int w : new int[] {-1, 7, 8, Integer.MIN_VALUE, Integer.MAX_VALUE}) {
            check.refuses("server(" + w + ", 0)", () -> filled(7, 0, 0), due, c -> c.server(w, 0));
        }
        for (int w : new int[] {-1, 8, 9, Integer.MIN_VALUE, Integer.MAX_VALUE}) {
            check.refuses("server(0, " + w + ")", () -> filled(7, 0, 0), due, c -> c.server(0, w));
            check.refuses("server(7, " + w + ")", () -> filled(7, 0, 0), due, c -> c.server(7, w));
        }
    }

    private static void council() {
        QuorumCouncil c = new QuorumCouncil(4, 1);
        c.members(19, 5, 96);
        c.vote(1);
        c.vote(3);
        c.round();
        c.round();
        c.round();
        int[] due = {19, 5, 96, 23, 103, 10, 3, 4};
        for (int what = 0; what < 8; what++) {
            check.due("council(" + what + ")", c.council(what), due[what]);
        }
        for (int w : new int[] {-1, 8, 9, Integer.MIN_VALUE, Integer.MAX_VALUE}) {
            check.due("council(" + w + ")", c.council(w), QuorumCouncil.NONE);
        }
        c.members(19, 5, 104);
        check.due("peers with a learner", c.council(4), 111);
        c.members(3, 0, 16);
        check.due("peers, itself a learner", c.council(4), 3);
        c.members(16, 0, 0);
        check.due("no peers", c.council(4), 0);
    }

    private static void viewsChangeNothing() {
        QuorumCouncil c = filled(7, 24, 96);
        c.sending(1, 0, 60, false);
        String before = Check.state(c);
        c.majority(127);
        c.agreed(0);
        c.agreed(1);
        c.agreed(2);
        c.council(99);
        check.due("after looking", Check.state(c), before);
    }
}
