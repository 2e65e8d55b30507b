/** Promise 10: sending. */
public final class SendingTest {
    private static final int MOST = 1000000000;
    private static final Check check = new Check();

    public static void main(String[] args) {
        whileProbing();
        inPipelines();
        howManyEntries();
        snapshots();
        ofANewObject();
        atTheGreatestNumbers();
        toPeersAlone();
        wrongNumbers();
        check.end();
    }

    private static QuorumCouncil leading(int last) {
        QuorumCouncil c = new QuorumCouncil(0, 7);
        c.members(7, 0, 8);
        c.lead(last, 0);
        return c;
    }

    private static void whileProbing() {
        QuorumCouncil c = leading(10);
        check.due("nothing new", c.sending(1, 0, 10, false), 0);
        check.due("nothing new, a beat", c.sending(1, 0, 10, true), 7);
        check.due("a beat does not fly", Check.of(c, 1), "11 0 0 1 0 0 0 0");
        check.due("one entry", c.sending(1, 0, 11, true), 1);
        check.due("it flies", Check.of(c, 1), "12 0 1 1 0 0 0 0");
        check.due("no second probe", c.sending(1, 0, 20, false), 0);
        check.due("no second probe, a beat", c.sending(1, 0, 20, true), 7);
        check.due("as it was", Check.of(c, 1), "12 0 1 1 0 0 0 0");
        check.due("a learner is sent to, too", c.sending(3, 0, 12, false), 2);
        check.due("the others are left alone", Check.of(c, 2), "11 0 0 1 0 0 0 0");
    }

    private static void inPipelines() {
        QuorumCouncil c = leading(10);
        c.matched(1, 10, 0, 0);
        for (int sent = 1; sent <= 4; sent++) {
            check.due("sending " + sent, c.sending(1, 0, 100, false), 6);
            check.due("flying " + sent, c.server(1, 2), sent);
            check.due("next " + sent, c.server(1, 0), 11 + 6 * sent);
        }
        check.due("no fifth", c.sending(1, 0, 100, false), 0);
        check.due("no fifth, a beat", c.sending(1, 0, 100, true), 7);
        check.due("as it was", Check.of(c, 1), "35 10 4 0 0 0 0 1");
        c.matched(1, 16, 0, 0);
        check.due("a place is free", c.sending(1, 0, 100, true), 6);
        check.due("four again", c.server(1, 2), 4);
    }

    private static void howManyEntries() {
        for (int more = 0; more <= 9; more++) {
            QuorumCouncil c = leading(10);
            int due = more > 6 ? 6 : more;
            check.due(more + " more", c.sending(1, 10, 10 + more, false), due);
            check.due("next by " + more, c.server(1, 0), 11 + due);
            check.due("flying by " + more, c.server(1, 2), more == 0 ? 0 : 1);
        }
    }

    private static void snapshots() {
        QuorumCouncil c = leading(10);
        check.due("NEXT above BASE", c.sending(1, 10, 12, false), 2);
        check.due("flying, and NEXT is BASE", c.sending(1, 13, 14, true), 0);
        check.due("NEXT is BASE", c.sending(2, 11, 14, false), 8);
        check.due("it flies", Check.of(c, 2), "11 0 1 1 0 0 0 0");
        check.due("one piece at a time", c.sending(2, 11, 14, false), 0);
        check.due("no beat beside it", c.sending(2, 11, 14, true), 0);
        check.due("as it was", Check.of(c, 2), "11 0 1 1 0 0 0 0");
        c.stored(2, 5, 9, 11, 0, 0);
        check.due("the next piece", c.sending(2, 11, 14, true), 8);
        c.matched(3, 10, 0, 0);
        check.due("BASE far above, BASE is LAST", c.sending(3, 500, 500, true), 8);
        check.due("one piece, not four", c.sending(3, 500, 500, true), 0);
        check.due("flying 1, PROBING not", Check.of(c, 3), "11 10 1 0 0 0 0 1");
    }

    private static void ofANewObject() {
        QuorumCouncil c = new QuorumCouncil(0, 7);
        check.due("NEXT 0 is not above BASE 0", c.sending(1, 0, 0, true), 8);
        check.due("flying", c.server(1, 2), 1);
    }

    private static void atTheGreatestNumbers() {
        QuorumCouncil c = leading(MOST);
        check.due("nothing", c.sending(1, MOST, MOST, false), 0);
        check.due("a beat", c.sending(1, MOST, MOST, true), 7);
        c.refused(1, MOST, MOST, 0, 0);
        check.due("a piece", c.sending(1, MOST, MOST, true), 8);
        c.refused(1, MOST, MOST, 0, 0);
        check.due("the last entry", c.sending(1, MOST - 1, MOST, true), 1);
        check.due("NEXT", c.server(1, 0), MOST + 1);
    }

    private static void toPeersAlone() {
        Class<IndexOutOfBoundsException> due = IndexOutOfBoundsException.class;
        for (int w : new int[] {0, 4, 5, 6, 7, -1, 33, Integer.MIN_VALUE, Integer.MAX_VALUE}) {
            check.refuses("sending to " + w, () -> leading(10), due, c -> c.sending(w, 0, 20, true));
            check.refuses("sending wrong numbers to " + w, () -> leading(10), due, c -> c.sending(w, 5, -1, true));
        }
        check.refuses("itself a learner", SendingTest::changing, due, c -> c.sending(0, 0, 20, true));
        check.due("one of NEW", changing().sending(4, 0, 20, true), 6);
        check.due("one of OLD", changing().sending(1, 0, 20, true), 6);
        check.refuses("one of OLD no more", SendingTest::changed, due, c -> c.sending(1, 0, 20, true));
    }

    private static QuorumCouncil changing() {
        QuorumCouncil c = leading(10);
        c.members(6, 16, 1);
        return c;
    }

    private static QuorumCouncil changed() {
        QuorumCouncil c = changing();
        c.settle();
        return c;
    }

    private static void wrongNumbers() {
        Class<IllegalArgumentException> due = IllegalArgumentException.class;
        for (int w : new int[] {-1, MOST + 1, Integer.MIN_VALUE, Integer.MAX_VALUE}) {
            check.refuses("base " + w, () -> leading(10), due, c -> c.sending(1, w, MOST, true));
            check.refuses("last " + w, () -> leading(10), due, c -> c.sending(1, 0, w, true));
            check.refuses("both " + w, () -> leading(10), due, c -> c.sending(1, w, w, true));
        }
        check.refuses("last below base", () -> leading(10), due, c -> c.sending(1, 20, 19, true));
    }
}
