/** Promises 8, 9 and 14: lead, round, own. */
public final class LeadingTest {
    private static final int MOST = 1000000000;
    private static final Check check = new Check();

    public static void main(String[] args) {
        leadBeginsAnew();
        leadRefusesWrongNumbers();
        roundBacksOffTheSilent();
        roundSparesThoseWhoAreNoPeers();
        own();
        ownRefusesWrongNumbers();
        check.end();
    }

    private static QuorumCouncil leading() {
        QuorumCouncil c = new QuorumCouncil(3, 15);
        c.lead(3, 3);
        c.round();
        c.own(4, 4);
        return c;
    }

    private static void leadBeginsAnew() {
        QuorumCouncil c = new QuorumCouncil(0, 7);
        c.members(7, 0, 8);
        c.vote(2);
        c.lead(3, 1);
        c.round();
        for (int s = 0; s < 7; s++) {
            c.matched(s, 2, 9, 50);
            c.stored(s, 7, 8, 1, 9, 50);
        }
        c.sending(1, 0, 9, false);
        c.lead(20, 30);
        check.due("lead(20, 30)", Check.state(c),
            "council 7 0 8 7 14 4 0 0" + " | 21 0 0 1 0 0 30 0".repeat(7));
        c.lead(0, 0);
        check.due("lead(0, 0)", Check.of(c, 6), "1 0 0 1 0 0 0 0");
        c.lead(MOST, MOST);
        check.due("lead of the most", Check.of(c, 0), "1000000001 0 0 1 0 0 1000000000 0");
    }

    private static void leadRefusesWrongNumbers() {
        for (int w : new int[] {-1, MOST + 1, Integer.MIN_VALUE, Integer.MAX_VALUE}) {
            check.refuses("lead last " + w, LeadingTest::leading, IllegalArgumentException.class, c -> c.lead(w, 0));
            check.refuses("lead now " + w, LeadingTest::leading, IllegalArgumentException.class, c -> c.lead(0, w));
        }
    }

    private static void roundBacksOffTheSilent() {
        QuorumCouncil c = new QuorumCouncil(0, 31);
        c.members(31, 0, 32);
        c.lead(10, 0);
        check.due("the first", c.round(), 1);
        for (int s = 1; s < 6; s++) {
            c.matched(s, 4, 0, 0);
        }
        c.round();
        c.sending(1, 0, 30, false);
        c.sending(1, 0, 30, false);
        c.sending(2, 0, 30, false);
        c.sending(2, 0, 30, false);
        c.matched(2, 5, 2, 1);
        c.sending(5, 0, 30, false);
        check.due("flying, silent", Check.of(c, 1), "23 4 2 0 0 0 0 0");
        check.due("flying, answered", Check.of(c, 2), "23 5 1 0 0 2 1 1");
        check.due("the third", c.round(), 3);
        check.due("council(6)", c.council(6), 3);
        check.due("flying and silent backs off", Check.of(c, 1), "5 4 0 1 0 0 0 0");
        check.due("flying and answered stays", Check.of(c, 2), "23 5 1 0 0 2 1 0");
        check.due("not flying stays", Check.of(c, 3), "11 4 0 0 0 0 0 0");
        check.due("a learner backs off too", Check.of(c, 5), "5 4 0 1 0 0 0 0");
        c.round();
        check.due("answered no more, so it backs off", Check.of(c, 2), "6 5 0 1 0 2 1 0");
    }

    private static void roundSparesThoseWhoAreNoPeers() {
        QuorumCouncil c = new QuorumCouncil(0, 7);
        c.lead(10, 0);
        c.sending(1, 0, 12, false);
        c.sending(2, 0, 12, false);
        c.members(3, 0, 0);
        c.matched(6, 3, 0, 8);
        c.own(10, 0);
        c.matched(0, 10, 0, 0);
        c.round();
        check.due("a peer", Check.of(c, 1), "1 0 0 1 0 0 0 0");
        check.due("no peer any more", Check.of(c, 2), "13 0 1 1 0 0 0 0");
        check.due("a stranger is ANSWERED no more", Check.of(c, 6), "11 3 0 0 0 0 8 0");
        check.due("itself is ANSWERED no more", Check.of(c, 0), "11 10 0 0 0 0 0 0");
    }

    private static void own() {
        QuorumCouncil c = new QuorumCouncil(3, 15);
        c.lead(10, 5);
        c.round();
        c.round();
        String others = Check.of(c, 0);
        c.own(12, 9);
        check.due("own(12, 9)", Check.of(c, 3), "11 12 0 1 0 2 9 0");
        check.due("another", Check.of(c, 0), others);
        c.own(4, 2);
        check.due("less, and earlier", Check.of(c, 3), "11 4 0 1 0 2 2 0");
        c.matched(3, 4, 7, 2);
        c.own(4, 3);
        check.due("ACK is the round, even if less", Check.of(c, 3), "11 4 0 0 0 2 3 1");
        c.own(MOST, MOST);
        check.due("the most", c.server(3, 1), MOST);
        c.own(0, 0);
        check.due("the least", Check.of(c, 3), "11 0 0 0 0 2 0 1");
    }

    private static void ownRefusesWrongNumbers() {
        for (int w : new int[] {-1, MOST + 1, Integer.MIN_VALUE, Integer.MAX_VALUE}) {
            check.refuses("own number " + w, LeadingTest::leading, IllegalArgumentException.class, c -> c.own(w, 0));
            check.refuses("own now " + w, LeadingTest::leading, IllegalArgumentException.class, c -> c.own(0, w));
        }
    }
}
