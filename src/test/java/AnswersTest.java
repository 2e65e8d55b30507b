/** Promises 11, 12 and 13: matched, refused, stored. */
public final class AnswersTest {
    private static final int MOST = 1000000000;
    private static final int[] WRONG = {-1, MOST + 1, Integer.MIN_VALUE, Integer.MAX_VALUE};
    private static final Check check = new Check();

    public static void main(String[] args) {
        matched();
        matchedOfAnyServer();
        refused();
        refusedWhenTheBoundsPart();
        stored();
        storedAll();
        atTheGreatestNumbers();
        wrongServers();
        wrongNumbers();
        check.end();
    }

    private static QuorumCouncil leading() {
        QuorumCouncil c = new QuorumCouncil(0, 7);
        c.lead(10, 100);
        return c;
    }

    private static void matched() {
        QuorumCouncil c = leading();
        c.sending(1, 0, 20, false);
        check.due("matched", c.matched(1, 13, 2, 90), 13);
        check.due("NEXT was more already", Check.of(c, 1), "17 13 0 0 0 2 90 1");
        check.due("less than before", c.matched(1, 4, 1, 80), 13);
        check.due("HEARD earlier, ACK and MATCH stay", Check.of(c, 1), "17 13 0 0 0 2 80 1");
        check.due("NEXT grows", c.matched(1, 17, 3, 120), 17);
        check.due("by one", Check.of(c, 1), "18 17 0 0 0 3 120 1");
        check.due("far more", c.matched(1, 40, 3, 120), 40);
        check.due("NEXT behind it", c.server(1, 0), 41);
        c.sending(1, 0, 90, false);
        c.sending(1, 0, 90, false);
        c.sending(1, 0, 90, false);
        c.matched(1, 46, 3, 120);
        check.due("FLYING is 1 less", Check.of(c, 1), "59 46 2 0 0 3 120 1");
        check.due("the others", Check.of(c, 2), "11 0 0 1 0 0 100 0");
        c.stored(2, 5, 9, 3, 0, 0);
        c.matched(2, 1, 0, 0);
        check.due("OFFSET stays", Check.of(c, 2), "11 1 0 0 5 0 0 1");
    }

    private static void matchedOfAnyServer() {
        QuorumCouncil c = leading();
        check.due("itself", c.matched(0, 12, 1, 5), 12);
        check.due("of itself", Check.of(c, 0), "13 12 0 0 0 1 5 1");
        check.due("a stranger", c.matched(6, 3, 1, 5), 3);
        check.due("of the stranger", Check.of(c, 6), "11 3 0 0 0 1 5 1");
        check.due("the round is not theirs", c.council(6), 0);
    }

    private static void refused() {
        QuorumCouncil c = leading();
        c.matched(1, 5, 4, 90);
        c.sending(1, 0, 40, false);
        c.sending(1, 0, 40, false);
        check.due("before", Check.of(c, 1), "23 5 2 0 0 4 90 1");
        check.due("try 8", c.refused(1, 8, 40, 3, 70), 8);
        check.due("after", Check.of(c, 1), "8 5 0 1 0 4 70 1");
        check.due("MATCH + 1", c.refused(1, 6, 40, 5, 71), 6);
        check.due("ACK grows", c.server(1, 5), 5);
        check.due("MATCH itself", c.refused(1, 5, 40, 5, 71), 6);
        check.due("the least", c.refused(1, 0, 40, 5, 71), 6);
        check.due("last", c.refused(1, 40, 40, 5, 71), 40);
        check.due("last + 1", c.refused(1, 41, 40, 5, 71), 41);
        check.due("last + 2", c.refused(1, 42, 40, 5, 71), 41);
        check.due("MATCH stays", c.server(1, 1), 5);
        c.round();
        c.stored(1, 3, 9, 2, 0, 0);
        c.round();
        c.refused(1, 8, 40, 0, 72);
        check.due("ANSWERED again, OFFSET stays", Check.of(c, 1), "8 5 0 1 3 5 72 1");
        check.due("itself", c.refused(0, 3, 9, 0, 0), 3);
        check.due("a stranger", c.refused(6, 30, 9, 0, 0), 10);
    }

    private static void refusedWhenTheBoundsPart() {
        QuorumCouncil c = leading();
        c.matched(1, 20, 0, 0);
        check.due("try low", c.refused(1, 0, 10, 0, 0), 11);
        check.due("try between", c.refused(1, 15, 10, 0, 0), 11);
        check.due("try high", c.refused(1, 90, 10, 0, 0), 11);
        check.due("LAST is 0", c.refused(1, 90, 0, 0, 0), 1);
    }

    private static void stored() {
        QuorumCouncil c = leading();
        c.matched(1, 5, 4, 90);
        c.sending(1, 30, 40, false);
        check.due("before", Check.of(c, 1), "11 5 1 0 0 4 90 1");
        check.due("a part", c.stored(1, 7, 8, 30, 3, 80), false);
        check.due("OFFSET alone", Check.of(c, 1), "11 5 0 0 7 4 80 1");
        check.due("less again", c.stored(1, 2, 8, 30, 6, 81), false);
        check.due("OFFSET goes back", Check.of(c, 1), "11 5 0 0 2 6 81 1");
        check.due("nothing", c.stored(1, 0, 8, 30, 6, 81), false);
        check.due("OFFSET 0", c.server(1, 4), 0);
        c.sending(2, 30, 40, false);
        c.round();
        check.due("before, probing", Check.of(c, 2), "1 0 0 1 0 0 100 0");
        c.stored(2, 1, 2, 30, 0, 4);
        check.due("probing stays", Check.of(c, 2), "1 0 0 1 1 0 4 1");
    }

    private static void storedAll() {
        QuorumCouncil c = leading();
        c.matched(1, 5, 4, 90);
        c.sending(1, 30, 40, false);
        c.stored(1, 7, 8, 30, 0, 0);
        c.sending(1, 30, 40, false);
        check.due("all of it", c.stored(1, 8, 8, 30, 3, 80), true);
        check.due("after", Check.of(c, 1), "31 30 0 1 0 4 80 1");
        c.matched(1, 33, 0, 0);
        c.sending(1, 0, 90, false);
        c.sending(1, 0, 90, false);
        check.due("more than all, an older one", c.stored(1, 9, 8, 20, 9, 81), true);
        check.due("MATCH stays, NEXT does not", Check.of(c, 1), "21 33 0 1 0 9 81 1");
        check.due("an empty one", c.stored(2, 0, 0, 0, 0, 1), true);
        check.due("of an empty one", Check.of(c, 2), "1 0 0 1 0 0 1 1");
        check.due("itself", c.stored(0, 1, 1, 3, 0, 1), true);
        check.due("a stranger", c.stored(6, 1, 1, 3, 0, 1), true);
        check.due("of the stranger", Check.of(c, 6), "4 3 0 1 0 0 1 1");
    }

    private static void atTheGreatestNumbers() {
        QuorumCouncil c = leading();
        check.due("matched", c.matched(1, MOST, MOST, MOST), MOST);
        check.due("of it", Check.of(c, 1), "1000000001 1000000000 0 0 0 1000000000 1000000000 1");
        check.due("refused", c.refused(1, MOST, MOST, MOST, MOST), MOST + 1);
        check.due("refused of another", c.refused(2, MOST, MOST, MOST, MOST), MOST);
        check.due("stored", c.stored(2, MOST, MOST, MOST, MOST, MOST), true);
        check.due("of that", Check.of(c, 2), "1000000001 1000000000 0 1 0 1000000000 1000000000 1");
        check.due("stored a part", c.stored(2, MOST - 1, MOST, MOST, MOST, MOST), false);
        check.due("OFFSET", c.server(2, 4), MOST - 1);
        check.due("the least", c.matched(0, 0, 0, 0), 0);
    }

    private static void wrongServers() {
        for (int w : new int[] {-1, 7, 8, 32, Integer.MIN_VALUE, Integer.MAX_VALUE}) {
            Class<IndexOutOfBoundsException> due = IndexOutOfBoundsException.class;
            check.refuses("matched of " + w, AnswersTest::leading, due, c -> c.matched(w, 1, 1, 1));
            check.refuses("refused of " + w, AnswersTest::leading, due, c -> c.refused(w, 1, 1, 1, 1));
            check.refuses("stored of " + w, AnswersTest::leading, due, c -> c.stored(w, 1, 1, 1, 1, 1));
            check.refuses("matched, all wrong, of " + w, AnswersTest::leading, due, c -> c.matched(w, -1, -1, -1));
            check.refuses("refused, all wrong, of " + w, AnswersTest::leading, due, c -> c.refused(w, -1, -1, -1, -1));
            check.refuses("stored, all wrong, of " + w, AnswersTest::leading, due, c -> c.stored(w, -1, -1, -1, -1, -1));
        }
    }

    private static void wrongNumbers() {
        Class<IllegalArgumentException> due = IllegalArgumentException.class;
        for (int w : WRONG) {
            check.refuses("matched number " + w, AnswersTest::leading, due, c -> c.matched(1, w, 1, 1));
            check.refuses("matched round " + w, AnswersTest::leading, due, c -> c.matched(1, 1, w, 1));
            check.refuses("matched now " + w, AnswersTest::leading, due, c -> c.matched(1, 1, 1, w));
            check.refuses("refused from " + w, AnswersTest::leading, due, c -> c.refused(1, w, 1, 1, 1));
            check.refuses("refused last " + w, AnswersTest::leading, due, c -> c.refused(1, 1, w, 1, 1));
            check.refuses("refused round " + w, AnswersTest::leading, due, c -> c.refused(1, 1, 1, w, 1));
            check.refuses("refused now " + w, AnswersTest::leading, due, c -> c.refused(1, 1, 1, 1, w));
            check.refuses("stored bytes " + w, AnswersTest::leading, due, c -> c.stored(1, w, 1, 1, 1, 1));
            check.refuses("stored size " + w, AnswersTest::leading, due, c -> c.stored(1, 1, w, 1, 1, 1));
            check.refuses("stored base " + w, AnswersTest::leading, due, c -> c.stored(1, 1, 1, w, 1, 1));
            check.refuses("stored round " + w, AnswersTest::leading, due, c -> c.stored(1, 1, 1, 1, w, 1));
            check.refuses("stored now " + w, AnswersTest::leading, due, c -> c.stored(1, 1, 1, 1, 1, w));
        }
    }
}
