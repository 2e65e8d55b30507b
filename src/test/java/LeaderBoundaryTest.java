import java.util.function.Supplier;

/** The boundary cases that the document names in promises 8 to 17, a method for each sentence. */
public final class LeaderBoundaryTest {
    private static final Class<IllegalArgumentException> ARGUMENT = IllegalArgumentException.class;
    private static final Class<IndexOutOfBoundsException> INDEX = IndexOutOfBoundsException.class;
    private static final int MOST = 1000000000;
    private static final int[] NO_NUMBERS = {-1, MOST + 1, Integer.MIN_VALUE, Integer.MAX_VALUE};
    private static final int[] NO_SERVERS = {-1, 7, 8, 31, 32, 33, Integer.MIN_VALUE, Integer.MAX_VALUE};
    private static final Check check = new Check();

    public static void main(String[] args) {
        lead();
        round();
        sending();
        matched();
        refused();
        stored();
        own();
        agreed();
        views();
        theLastCall();
        check.end();
    }

    private static void lead() {
        leadForAllServers();
        leadOfLeastAndMost();
        leadRoundIs0();
        leadNoSuchNumber();
    }

    private static void round() {
        roundNumber();
        roundFlying();
        roundNotAnswered();
        roundOfPeersAlone();
        roundNextIsMatchAndOne();
        roundThenNoOneAnswered();
    }

    private static void sending() {
        sendingNextNotAboveBase();
        sendingSnapshotIfNotFlying();
        sendingNextNotAboveLast();
        sendingBelowOneProbing();
        sendingBelowFourNot();
        sendingAtMostSix();
        sendingBeat();
        sendingToNoPeer();
        sendingNoSuchNumber();
        sendingLastBelowBase();
    }

    private static void matched() {
        matchedHeardEarlier();
        matchedAckAndMatchAtLeast();
        matchedFlyingAtLeast0();
        matchedNextAtLeast();
        matchedNoSuchServer();
        matchedNoSuchNumber();
    }

    private static void refused() {
        refusedHears();
        refusedFlyingIs0();
        refusedAtLeastMatchAndOne();
        refusedAtMostLastAndOne();
        refusedTheLatterIfTheyPart();
        refusedNoSuchServer();
        refusedNoSuchNumber();
    }

    private static void stored() {
        storedHears();
        storedHasItAll();
        storedElse();
        storedMatchAtLeastBase();
        storedNoSuchServer();
        storedNoSuchNumber();
    }

    private static void own() {
        ownLessThanBefore();
        ownAckIsTheRound();
        ownNoSuchNumber();
    }

    private static void agreed() {
        agreedIsTheGreatest();
        agreedOfTwoSets();
        agreedOfAnother();
    }

    private static void views() {
        serverOfNoSuchServer();
        serverOfNoSuchWhat();
        councilOfAnother();
    }

    /** Server 0 leads 1 and 2, and the learner 3; LAST is 10, the time 100. */
    private static QuorumCouncil leading() {
        QuorumCouncil c = new QuorumCouncil(0, 7);
        c.members(7, 0, 8);
        c.lead(10, 100);
        return c;
    }

    /** As leading(), and server 1 has all up to 10 and is PROBING no more. */
    private static QuorumCouncil pipelining() {
        QuorumCouncil c = leading();
        c.matched(1, 10, 0, 100);
        return c;
    }

    private static void leadForAllServers() {
        check.about("8: for all servers");
        QuorumCouncil c = leading();
        for (int s = 0; s < 7; s++) {
            c.matched(s, 5, 6, 7);
            c.stored(s, 1, 2, 3, 4, 5);
        }
        c.sending(1, 0, 30, false);
        c.vote(2);
        c.lead(40, 41);
        check.due("voters, learners, others, itself", Check.state(c),
            "council 7 0 8 7 14 4 0 0" + " | 41 0 0 1 0 0 41 0".repeat(7));
    }

    private static void leadOfLeastAndMost() {
        check.about("8: NEXT is last + 1");
        QuorumCouncil c = leading();
        c.lead(0, 0);
        check.due("0 and 0", Check.of(c, 6), "1 0 0 1 0 0 0 0");
        c.lead(MOST, MOST);
        check.due("the most", Check.of(c, 6), "1000000001 0 0 1 0 0 1000000000 0");
    }

    private static void leadRoundIs0() {
        check.about("8: the ROUND is 0");
        QuorumCouncil c = leading();
        c.round();
        c.round();
        c.lead(10, 100);
        check.due("after lead", c.council(6), 0);
        check.due("the next", c.round(), 1);
    }

    private static void leadNoSuchNumber() {
        check.about("8: IllegalArgumentException, when last or now is no such number");
        for (int w : NO_NUMBERS) {
            check.refuses("last " + w, LeaderBoundaryTest::pipelining, ARGUMENT, c -> c.lead(w, 0));
            check.refuses("now " + w, LeaderBoundaryTest::pipelining, ARGUMENT, c -> c.lead(0, w));
        }
    }

    private static void roundNumber() {
        check.about("9: its (the new one's) number");
        QuorumCouncil c = leading();
        check.due("the first", c.round(), 1);
        check.due("the second", c.round(), 2);
        check.due("the council's", c.council(6), 2);
        check.due("with no lead() before", new QuorumCouncil(0, 1).round(), 1);
    }

    private static void roundFlying() {
        check.about("9: for each peer who is FLYING");
        QuorumCouncil c = pipelining();
        c.round();
        c.round();
        check.due("not FLYING stays", Check.of(c, 1), "11 10 0 0 0 0 100 0");
        c.sending(1, 0, 11, false);
        c.round();
        check.due("one FLYING backs off", Check.of(c, 1), "11 10 0 1 0 0 100 0");
        QuorumCouncil d = leading();
        d.stored(1, 4, 9, 20, 0, 100);
        d.round();
        d.sending(1, 20, 20, false);
        d.round();
        check.due("a piece FLYING backs off, OFFSET stays", Check.of(d, 1), "1 0 0 1 4 0 100 0");
        check.due("and may be sent again", d.sending(1, 20, 20, false), 8);
    }

    private static void roundNotAnswered() {
        check.about("9: and not ANSWERED");
        QuorumCouncil c = pipelining();
        c.sending(1, 0, 30, false);
        c.sending(1, 0, 30, false);
        c.matched(1, 16, 0, 101);
        c.round();
        check.due("ANSWERED stays", Check.of(c, 1), "23 16 1 0 0 0 101 0");
        c.round();
        check.due("not in the round after", Check.of(c, 1), "17 16 0 1 0 0 101 0");
    }

    private static void roundOfPeersAlone() {
        check.about("9: for each peer");
        QuorumCouncil c = leading();
        c.sending(1, 0, 12, false);
        c.sending(2, 0, 12, false);
        c.sending(3, 0, 12, false);
        c.members(3, 0, 8);
        c.round();
        check.due("a voter", Check.of(c, 1), "1 0 0 1 0 0 100 0");
        check.due("no peer any more", Check.of(c, 2), "13 0 1 1 0 0 100 0");
        check.due("a learner", Check.of(c, 3), "1 0 0 1 0 0 100 0");
        QuorumCouncil d = leading();
        d.members(7, 16, 8);
        d.sending(4, 0, 12, false);
        d.round();
        check.due("one of NEW", Check.of(d, 4), "1 0 0 1 0 0 100 0");
    }

    private static void roundNextIsMatchAndOne() {
        check.about("9: NEXT is MATCH + 1");
        QuorumCouncil c = leading();
        c.matched(1, MOST - 1, 0, 0);
        c.round();
        c.sending(1, 0, MOST, false);
        check.due("sent", c.server(1, 0), MOST + 1);
        c.round();
        check.due("back to the last entry of all", c.server(1, 0), MOST);
        QuorumCouncil d = pipelining();
        d.matched(1, 20, 0, 0);
        d.refused(1, 0, 14, 0, 0);
        d.round();
        d.sending(1, 0, 15, false);
        d.round();
        check.due("it may go up, too", d.server(1, 0), 21);
    }

    private static void roundThenNoOneAnswered() {
        check.about("9: then no one is ANSWERED");
        QuorumCouncil c = leading();
        for (int s = 0; s < 7; s++) {
            c.matched(s, 1, 1, 1);
        }
        c.round();
        for (int s = 0; s < 7; s++) {
            check.due("server " + s, c.server(s, 7), 0);
        }
    }

    private static void sendingNextNotAboveBase() {
        check.about("10: NEXT not above BASE: 8");
        check.due("NEXT is BASE - 1", leading().sending(1, 12, 20, false), 8);
        check.due("NEXT is BASE", leading().sending(1, 11, 20, false), 8);
        check.due("NEXT is BASE + 1", leading().sending(1, 10, 20, false), 6);
        check.due("BASE is LAST", leading().sending(1, 11, 11, false), 8);
        check.due("BASE and LAST below NEXT", leading().sending(1, 10, 10, false), 0);
        check.due("the most", leading().sending(1, MOST, MOST, false), 8);
        check.due("NEXT 0 of a new object", new QuorumCouncil(0, 7).sending(1, 0, 0, false), 8);
        check.due("NEXT does not grow", sentPiece().server(1, 0), 11);
    }

    private static QuorumCouncil sentPiece() {
        QuorumCouncil c = leading();
        c.sending(1, 11, 20, false);
        return c;
    }

    private static void sendingSnapshotIfNotFlying() {
        check.about("10: 8, if it is not FLYING (FLYING is 1 then), else 0");
        check.due("FLYING is 1 then", Check.of(sentPiece(), 1), "11 0 1 1 0 0 100 0");
        QuorumCouncil c = sentPiece();
        check.due("FLYING", c.sending(1, 11, 20, false), 0);
        check.due("FLYING, a beat", c.sending(1, 11, 20, true), 0);
        check.due("nothing changed", Check.of(c, 1), "11 0 1 1 0 0 100 0");
        c.stored(1, 1, 2, 11, 0, 100);
        check.due("not FLYING again", c.sending(1, 11, 20, true), 8);
        QuorumCouncil d = pipelining();
        d.sending(1, 0, 30, false);
        check.due("entries FLYING, not PROBING", d.sending(1, 17, 30, true), 0);
    }

    private static void sendingNextNotAboveLast() {
        check.about("10: Else, when NEXT is not above LAST");
        check.due("NEXT is LAST - 1", leading().sending(1, 0, 12, false), 2);
        check.due("NEXT is LAST", leading().sending(1, 0, 11, false), 1);
        check.due("NEXT is LAST + 1", leading().sending(1, 0, 10, false), 0);
        check.due("NEXT is LAST + 2", leading().sending(1, 0, 9, false), 0);
        QuorumCouncil c = new QuorumCouncil(0, 7);
        c.lead(MOST - 1, 0);
        check.due("the last of all", c.sending(1, 0, MOST, false), 1);
        check.due("NEXT behind it", c.server(1, 0), MOST + 1);
        c.matched(1, MOST, 0, 0);
        check.due("nothing behind it", c.sending(1, 0, MOST, false), 0);
    }

    private static void sendingBelowOneProbing() {
        check.about("10: and FLYING is below 1 (PROBING)");
        QuorumCouncil c = leading();
        check.due("FLYING 0", c.sending(1, 0, 100, false), 6);
        check.due("FLYING 1", c.sending(1, 0, 100, false), 0);
        check.due("after both", Check.of(c, 1), "17 0 1 1 0 0 100 0");
    }

    private static void sendingBelowFourNot() {
        check.about("10: or 4 (not)");
        QuorumCouncil c = pipelining();
        for (int flying = 0; flying < 4; flying++) {
            check.due("FLYING " + flying, c.sending(1, 0, 100, false), 6);
        }
        check.due("FLYING 4", c.sending(1, 0, 100, false), 0);
        check.due("after all", Check.of(c, 1), "35 10 4 0 0 0 100 1");
        c.matched(1, 16, 0, 100);
        check.due("FLYING 3 again", c.sending(1, 0, 100, false), 6);
        check.due("FLYING 4 again", c.sending(1, 0, 100, false), 0);
    }

    private static void sendingAtMostSix() {
        check.about("10: as many entries as there are from NEXT to LAST, at most 6");
        int[] last = {11, 15, 16, 17, 18, MOST};
        int[] due = {1, 5, 6, 6, 6, 6};
        for (int i = 0; i < last.length; i++) {
            QuorumCouncil c = leading();
            check.due("LAST " + last[i], c.sending(1, 0, last[i], true), due[i]);
            check.due("NEXT grows by them, LAST " + last[i], c.server(1, 0), 11 + due[i]);
            check.due("FLYING is 1 more, LAST " + last[i], c.server(1, 2), 1);
        }
    }

    private static void sendingBeat() {
        check.about("10: Else 7 (it is not FLYING by that), when it is a beat, else 0");
        QuorumCouncil c = leading();
        check.due("no entries", c.sending(1, 0, 10, false), 0);
        check.due("no entries, a beat", c.sending(1, 0, 10, true), 7);
        check.due("not FLYING by that", Check.of(c, 1), "11 0 0 1 0 0 100 0");
        c.sending(1, 0, 20, false);
        check.due("one FLYING", c.sending(1, 0, 20, false), 0);
        check.due("one FLYING, a beat", c.sending(1, 0, 20, true), 7);
        check.due("one FLYING still", Check.of(c, 1), "17 0 1 1 0 0 100 0");
    }

    private static void sendingToNoPeer() {
        check.about("10: IndexOutOfBoundsException, when the server is no peer");
        for (int w : NO_SERVERS) {
            check.refuses("server " + w, LeaderBoundaryTest::leading, INDEX, c -> c.sending(w, 0, 20, true));
        }
        check.refuses("itself", LeaderBoundaryTest::leading, INDEX, c -> c.sending(0, 0, 20, true));
        check.refuses("nobody", LeaderBoundaryTest::leading, INDEX, c -> c.sending(4, 0, 20, true));
        check.refuses("the last of nobody", LeaderBoundaryTest::leading, INDEX, c -> c.sending(6, 0, 20, true));
        check.refuses("nobody and wrong numbers", LeaderBoundaryTest::leading, INDEX,
            c -> c.sending(6, -1, -2, true));
    }

    private static void sendingNoSuchNumber() {
        check.about("10: IllegalArgumentException, when base or last is no such number");
        for (int w : NO_NUMBERS) {
            check.refuses("base " + w, LeaderBoundaryTest::leading, ARGUMENT, c -> c.sending(1, w, MOST, true));
            check.refuses("last " + w, LeaderBoundaryTest::leading, ARGUMENT, c -> c.sending(1, 0, w, true));
            check.refuses("both " + w, LeaderBoundaryTest::leading, ARGUMENT, c -> c.sending(1, w, w, true));
        }
    }

    private static void sendingLastBelowBase() {
        check.about("10: or last is below base");
        check.refuses("by one", LeaderBoundaryTest::leading, ARGUMENT, c -> c.sending(1, 1, 0, true));
        check.refuses("by the most", LeaderBoundaryTest::leading, ARGUMENT, c -> c.sending(1, MOST, 0, true));
        check.due("the same", leading().sending(1, 10, 10, true), 7);
    }

    private static void matchedHeardEarlier() {
        check.about("11: HEARD is the time (also an earlier one)");
        QuorumCouncil c = leading();
        int[] times = {101, 100, 99, 0, MOST, 1};
        for (int now : times) {
            c.matched(1, 0, 0, now);
            check.due("at " + now, c.server(1, 6), now);
        }
    }

    private static void matchedAckAndMatchAtLeast() {
        check.about("11: ANSWERED true, ACK and MATCH at least these");
        QuorumCouncil c = leading();
        int[] given = {5, 4, 5, 6, 0, MOST, 0};
        int[] due = {5, 5, 5, 6, 6, MOST, MOST};
        for (int i = 0; i < given.length; i++) {
            c.round();
            check.due("its MATCH, call " + i, c.matched(1, given[i], 0, 0), due[i]);
            check.due("MATCH, call " + i, c.server(1, 1), due[i]);
            check.due("ANSWERED, call " + i, c.server(1, 7), 1);
        }
        QuorumCouncil d = leading();
        for (int i = 0; i < given.length; i++) {
            d.matched(1, 0, given[i], 0);
            check.due("ACK, call " + i, d.server(1, 5), due[i]);
            check.due("the round is not it, call " + i, d.council(6), 0);
        }
    }

    private static void matchedFlyingAtLeast0() {
        check.about("11: PROBING false, FLYING 1 less (at least 0)");
        QuorumCouncil c = leading();
        c.matched(1, 0, 0, 0);
        check.due("none FLYING", Check.of(c, 1), "11 0 0 0 0 0 0 1");
        c.sending(1, 0, 11, false);
        c.sending(1, 0, 12, false);
        int[] due = {1, 0, 0};
        for (int i = 0; i < due.length; i++) {
            c.matched(1, 0, 0, 0);
            check.due("FLYING, call " + i, c.server(1, 2), due[i]);
        }
    }

    private static void matchedNextAtLeast() {
        check.about("11: NEXT at least number + 1");
        int[] number = {0, 9, 10, 11, MOST};
        int[] due = {11, 11, 11, 12, MOST + 1};
        for (int i = 0; i < number.length; i++) {
            QuorumCouncil c = leading();
            c.matched(1, number[i], 0, 0);
            check.due("number " + number[i], c.server(1, 0), due[i]);
        }
        QuorumCouncil c = pipelining();
        c.refused(1, 0, 3, 0, 0);
        c.matched(1, 5, 0, 0);
        check.due("by the number, not by MATCH", Check.of(c, 1), "6 10 0 0 0 0 0 1");
    }

    private static void matchedNoSuchServer() {
        check.about("11: IndexOutOfBoundsException, when there is no such server");
        for (int w : NO_SERVERS) {
            check.refuses("server " + w, LeaderBoundaryTest::leading, INDEX, c -> c.matched(w, 1, 1, 1));
        }
        check.due("nobody is one", leading().matched(6, 3, 1, 1), 3);
        check.due("itself is one", leading().matched(0, 3, 1, 1), 3);
    }

    private static void matchedNoSuchNumber() {
        check.about("11: IllegalArgumentException, when one of the others is no such number");
        for (int w : NO_NUMBERS) {
            check.refuses("number " + w, LeaderBoundaryTest::pipelining, ARGUMENT, c -> c.matched(1, w, 1, 1));
            check.refuses("round " + w, LeaderBoundaryTest::pipelining, ARGUMENT, c -> c.matched(1, 1, w, 1));
            check.refuses("now " + w, LeaderBoundaryTest::pipelining, ARGUMENT, c -> c.matched(1, 1, 1, w));
        }
    }

    private static void refusedHears() {
        check.about("12: HEARD, ANSWERED and ACK as for matched()");
        QuorumCouncil c = leading();
        c.refused(1, 5, 10, 7, 101);
        check.due("more", Check.of(c, 1), "5 0 0 1 0 7 101 1");
        c.refused(1, 5, 10, 6, 99);
        check.due("less", Check.of(c, 1), "5 0 0 1 0 7 99 1");
        c.refused(1, 5, 10, MOST, MOST);
        check.due("the most", Check.of(c, 1), "5 0 0 1 0 1000000000 1000000000 1");
        c.refused(1, 5, 10, 0, 0);
        check.due("the least", Check.of(c, 1), "5 0 0 1 0 1000000000 0 1");
    }

    private static void refusedFlyingIs0() {
        check.about("12: FLYING is 0, PROBING true");
        QuorumCouncil c = pipelining();
        for (int n = 0; n < 4; n++) {
            c.sending(1, 0, 100, false);
        }
        c.refused(1, 12, 100, 0, 100);
        check.due("four were FLYING", Check.of(c, 1), "12 10 0 1 0 0 100 1");
        c.refused(1, 12, 100, 0, 100);
        check.due("none was", Check.of(c, 1), "12 10 0 1 0 0 100 1");
    }

    private static void refusedAtLeastMatchAndOne() {
        check.about("12: NEXT is try, but at least MATCH + 1");
        int[] from = {0, 9, 10, 11, 12, 40};
        int[] due = {11, 11, 11, 11, 12, 40};
        for (int i = 0; i < from.length; i++) {
            check.due("try " + from[i], pipelining().refused(1, from[i], 100, 0, 0), due[i]);
        }
        check.due("MATCH 0, try 0", leading().refused(1, 0, 100, 0, 0), 1);
        QuorumCouncil c = pipelining();
        check.due("NEXT as answered", c.refused(1, 40, 100, 0, 0), c.server(1, 0));
    }

    private static void refusedAtMostLastAndOne() {
        check.about("12: and at most last + 1");
        int[] from = {49, 50, 51, 52, MOST};
        int[] due = {49, 50, 51, 51, 51};
        for (int i = 0; i < from.length; i++) {
            check.due("try " + from[i], pipelining().refused(1, from[i], 50, 0, 0), due[i]);
        }
        check.due("the most of all", leading().refused(1, MOST, MOST, 0, 0), MOST);
        check.due("LAST 0", leading().refused(1, 5, 0, 0, 0), 1);
    }

    private static void refusedTheLatterIfTheyPart() {
        check.about("12: (the latter, if these part)");
        for (int from : new int[] {0, 9, 10, 11, 12, MOST}) {
            check.due("last is MATCH, try " + from, pipelining().refused(1, from, 10, 0, 0), 11);
            check.due("last is MATCH - 1, try " + from, pipelining().refused(1, from, 9, 0, 0), 10);
            check.due("last is 0, try " + from, pipelining().refused(1, from, 0, 0, 0), 1);
        }
        QuorumCouncil c = pipelining();
        c.matched(1, MOST, 0, 0);
        check.due("both the most", c.refused(1, 0, MOST, 0, 0), MOST + 1);
        check.due("MATCH stays", c.server(1, 1), MOST);
    }

    private static void refusedNoSuchServer() {
        check.about("12: As for matched(), a server");
        for (int w : NO_SERVERS) {
            check.refuses("server " + w, LeaderBoundaryTest::leading, INDEX, c -> c.refused(w, 1, 1, 1, 1));
        }
        check.due("nobody is one", leading().refused(6, 3, 9, 1, 1), 3);
        check.due("itself is one", leading().refused(0, 3, 9, 1, 1), 3);
    }

    private static void refusedNoSuchNumber() {
        check.about("12: As for matched(), a number");
        Supplier<QuorumCouncil> made = LeaderBoundaryTest::pipelining;
        for (int w : NO_NUMBERS) {
            check.refuses("from " + w, made, ARGUMENT, c -> c.refused(1, w, 1, 1, 1));
            check.refuses("last " + w, made, ARGUMENT, c -> c.refused(1, 1, w, 1, 1));
            check.refuses("round " + w, made, ARGUMENT, c -> c.refused(1, 1, 1, w, 1));
            check.refuses("now " + w, made, ARGUMENT, c -> c.refused(1, 1, 1, 1, w));
        }
    }

    private static void storedHears() {
        check.about("13: HEARD, ANSWERED and ACK as for matched(); FLYING is 0");
        for (int bytes = 1; bytes <= 2; bytes++) {
            QuorumCouncil c = pipelining();
            c.sending(1, 0, 100, false);
            c.sending(1, 0, 100, false);
            c.round();
            c.stored(1, bytes, 2, 3, 7, 101);
            check.due("FLYING, with " + bytes, c.server(1, 2), 0);
            check.due("ACK, with " + bytes, c.server(1, 5), 7);
            check.due("HEARD, with " + bytes, c.server(1, 6), 101);
            check.due("ANSWERED, with " + bytes, c.server(1, 7), 1);
            c.stored(1, bytes, 2, 3, 6, 99);
            check.due("ACK of less, with " + bytes, c.server(1, 5), 7);
            check.due("HEARD earlier, with " + bytes, c.server(1, 6), 99);
        }
    }

    private static void storedHasItAll() {
        check.about("13: has it all: MATCH at least base, NEXT base + 1, PROBING true, OFFSET 0");
        int[] bytes = {8, 9, MOST, 0, MOST};
        int[] size = {8, 8, 8, 0, MOST};
        for (int i = 0; i < bytes.length; i++) {
            QuorumCouncil c = pipelining();
            c.stored(1, 3, 4, 30, 0, 100);
            check.due(bytes[i] + " of " + size[i], c.stored(1, bytes[i], size[i], 30, 0, 100), true);
            check.due("after " + bytes[i] + " of " + size[i], Check.of(c, 1), "31 30 0 1 0 0 100 1");
        }
    }

    private static void storedElse() {
        check.about("13: else OFFSET is that: whether it has all");
        int[] bytes = {7, 0, 0, MOST - 1};
        int[] size = {8, 8, 1, MOST};
        for (int i = 0; i < bytes.length; i++) {
            QuorumCouncil c = pipelining();
            c.stored(1, 3, 4, 30, 0, 100);
            check.due(bytes[i] + " of " + size[i], c.stored(1, bytes[i], size[i], 30, 0, 100), false);
            check.due("after " + bytes[i] + " of " + size[i], Check.of(c, 1), "11 10 0 0 " + bytes[i] + " 0 100 1");
        }
    }

    private static void storedMatchAtLeastBase() {
        check.about("13: MATCH at least base, NEXT base + 1");
        int[] base = {0, 9, 10, 11, MOST};
        int[] match = {10, 10, 10, 11, MOST};
        for (int i = 0; i < base.length; i++) {
            QuorumCouncil c = pipelining();
            c.stored(1, 1, 1, base[i], 0, 0);
            check.due("MATCH, base " + base[i], c.server(1, 1), match[i]);
            check.due("NEXT, base " + base[i], c.server(1, 0), base[i] + 1);
        }
    }

    private static void storedNoSuchServer() {
        check.about("13: As for matched(), a server");
        for (int w : NO_SERVERS) {
            check.refuses("server " + w, LeaderBoundaryTest::leading, INDEX, c -> c.stored(w, 1, 1, 1, 1, 1));
        }
        check.due("nobody is one", leading().stored(6, 1, 1, 1, 1, 1), true);
        check.due("itself is one", leading().stored(0, 1, 1, 1, 1, 1), true);
    }

    private static void storedNoSuchNumber() {
        check.about("13: As for matched(), a number");
        Supplier<QuorumCouncil> made = LeaderBoundaryTest::pipelining;
        for (int w : NO_NUMBERS) {
            check.refuses("bytes " + w, made, ARGUMENT, c -> c.stored(1, w, 1, 1, 1, 1));
            check.refuses("size " + w, made, ARGUMENT, c -> c.stored(1, 1, w, 1, 1, 1));
            check.refuses("base " + w, made, ARGUMENT, c -> c.stored(1, 1, 1, w, 1, 1));
            check.refuses("base " + w + ", a part", made, ARGUMENT, c -> c.stored(1, 0, 1, w, 1, 1));
            check.refuses("round " + w, made, ARGUMENT, c -> c.stored(1, 1, 1, 1, w, 1));
            check.refuses("now " + w, made, ARGUMENT, c -> c.stored(1, 1, 1, 1, 1, w));
        }
    }

    private static void ownLessThanBefore() {
        check.about("14: its MATCH is that (also less than before), its HEARD the time");
        QuorumCouncil c = leading();
        int[] number = {5, 4, 0, MOST, 6};
        for (int n : number) {
            c.own(n, n + 100 <= MOST ? n + 100 : n);
            check.due("MATCH " + n, c.server(0, 1), n);
            check.due("HEARD " + n, c.server(0, 6), n + 100 <= MOST ? n + 100 : n);
        }
        check.due("the rest", Check.of(c, 0), "11 6 0 1 0 0 106 0");
        check.due("another", Check.of(c, 1), "11 0 0 1 0 0 100 0");
        QuorumCouncil d = new QuorumCouncil(7, 1);
        d.own(3, 4);
        check.due("itself, 7 as 6 and no voter", Check.of(d, 6), "0 3 0 0 0 0 4 0");
    }

    private static void ownAckIsTheRound() {
        check.about("14: its ACK the round");
        QuorumCouncil c = leading();
        c.own(1, 1);
        check.due("round 0", c.server(0, 5), 0);
        c.round();
        check.due("not by the round alone", c.server(0, 5), 0);
        c.own(1, 1);
        check.due("round 1", c.server(0, 5), 1);
        c.matched(0, 0, 9, 1);
        c.own(1, 1);
        check.due("also less than before", c.server(0, 5), 1);
    }

    private static void ownNoSuchNumber() {
        check.about("14: IllegalArgumentException, when one is no such number");
        for (int w : NO_NUMBERS) {
            check.refuses("number " + w, LeaderBoundaryTest::pipelining, ARGUMENT, c -> c.own(w, 1));
            check.refuses("now " + w, LeaderBoundaryTest::pipelining, ARGUMENT, c -> c.own(1, w));
        }
    }

    /** MATCH, ACK and HEARD of server s are 10, 20 and 30 times s + 1. */
    private static QuorumCouncil rising(int old, int fresh) {
        QuorumCouncil c = new QuorumCouncil(0, 1);
        c.members(old, fresh, 0);
        for (int s = 0; s < 7; s++) {
            c.matched(s, 10 * (s + 1), 20 * (s + 1), 30 * (s + 1));
        }
        return c;
    }

    private static void dueAgreed(String call, QuorumCouncil c, int tens) {
        check.due(call + ", MATCH", c.agreed(0), 10 * tens);
        check.due(call + ", ACK", c.agreed(1), 20 * tens);
        check.due(call + ", HEARD", c.agreed(2), 30 * tens);
    }

    private static void agreedIsTheGreatest() {
        check.about("15: What a majority has: the greatest number v");
        int[] old = {1, 3, 7, 15, 31, 63, 127, 64, 96};
        int[] due = {1, 1, 2, 2, 3, 3, 4, 7, 6};
        for (int i = 0; i < old.length; i++) {
            dueAgreed("OLD " + old[i], rising(old[i], 0), due[i]);
        }
        dueAgreed("nothing yet", new QuorumCouncil(0, 127), 0);
        QuorumCouncil c = new QuorumCouncil(0, 7);
        c.matched(0, MOST, MOST, MOST);
        dueAgreed("one of three has the most", c, 0);
        c.matched(1, MOST, MOST, MOST);
        check.due("two of three have the most, MATCH", c.agreed(0), MOST);
        check.due("two of three have the most, ACK", c.agreed(1), MOST);
        check.due("two of three have the most, HEARD", c.agreed(2), MOST);
    }

    private static void agreedOfTwoSets() {
        check.about("15: of whom it is at least v are a majority (of both)");
        dueAgreed("NEW has less", rising(112, 7), 2);
        dueAgreed("OLD has less", rising(7, 112), 2);
        dueAgreed("one each", rising(64, 1), 1);
        dueAgreed("they share some", rising(7, 28), 2);
    }

    private static void agreedOfAnother() {
        check.about("15: IllegalArgumentException, for another what");
        for (int w : new int[] {-1, 3, 4, 5, Integer.MIN_VALUE, Integer.MAX_VALUE}) {
            check.refuses("what " + w, LeaderBoundaryTest::pipelining, ARGUMENT, c -> c.agreed(w));
        }
    }

    private static void serverOfNoSuchServer() {
        check.about("16: IndexOutOfBoundsException, when there is no such server");
        for (int w : NO_SERVERS) {
            check.refuses("server " + w, LeaderBoundaryTest::leading, INDEX, c -> c.server(w, 0));
            check.refuses("server " + w + ", the last what", LeaderBoundaryTest::leading, INDEX, c -> c.server(w, 7));
        }
        check.due("the first", leading().server(0, 0), 11);
        check.due("the last", leading().server(6, 0), 11);
    }

    private static void serverOfNoSuchWhat() {
        check.about("16: IndexOutOfBoundsException, when there is no such what");
        for (int w : new int[] {-1, 8, 9, 16, Integer.MIN_VALUE, Integer.MAX_VALUE}) {
            check.refuses("what " + w, LeaderBoundaryTest::leading, INDEX, c -> c.server(1, w));
            check.refuses("what " + w + " of no server", LeaderBoundaryTest::leading, INDEX, c -> c.server(7, w));
        }
    }

    private static void councilOfAnother() {
        check.about("17: NONE for another what");
        for (int w : new int[] {-1, 8, 9, 16, Integer.MIN_VALUE, Integer.MAX_VALUE}) {
            check.due("what " + w, leading().council(w), -1);
        }
        check.due("the first", leading().council(0), 7);
        check.due("the last", new QuorumCouncil(6, 1).council(7), 6);
    }

    private static void theLastCall() {
        check.about("An object is used for at most 512 calls after it has been made");
        QuorumCouncil c = new QuorumCouncil(0, 127);
        for (int n = 1; n <= 512; n++) {
            check.due("call " + n, c.round(), n);
        }
    }
}
