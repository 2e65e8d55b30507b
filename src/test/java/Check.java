/**
 * Counts the answers of one test that are not due, and prints each. To see that nothing else changed, tests look at
 * all of a council often, and so pass the 512 calls that the document promises for: the class counts no calls.
 */
final class Check {
    interface Call {
        void run();
    }

    private int wrong = 0;

    void due(String call, long got, long want) {
        if (got != want) {
            tell(call + " answered " + got + ", due is " + want);
        }
    }

    void due(String call, boolean got, boolean want) {
        if (got != want) {
            tell(call + " answered " + got + ", due is " + want);
        }
    }

    void due(String call, String got, String want) {
        if (!got.equals(want)) {
            tell(call + " answered\n  " + got + ", due is\n  " + want);
        }
    }

    /** The call must throw just that class, and leave what the council shows as it was. */
    void refuses(String call, QuorumCouncil council, Class<? extends RuntimeException> due, Call made) {
        String before = state(council);
        Class<?> thrown = null;
        try {
            made.run();
        } catch (RuntimeException e) {
            thrown = e.getClass();
        }
        if (thrown != due) {
            tell(call + " threw " + (thrown == null ? "nothing" : thrown.getName()) + ", due is " + due.getName());
        }
        due("the state after " + call, state(council), before);
    }

    void tell(String what) {
        wrong++;
        System.out.println(what);
    }

    void end() {
        if (wrong != 0) {
            System.out.println(wrong + " answers are not as due");
            System.exit(1);
        }
    }

    /** All that a council shows: the eight of the council, then the eight of each server. */
    static String state(QuorumCouncil council) {
        StringBuilder text = new StringBuilder("council");
        for (int what = 0; what < 8; what++) {
            text.append(' ').append(council.council(what));
        }
        for (int server = 0; server < 7; server++) {
            text.append(" | ").append(of(council, server));
        }
        return text.toString();
    }

    /** NEXT MATCH FLYING PROBING OFFSET ACK HEARD ANSWERED of one server. */
    static String of(QuorumCouncil council, int server) {
        StringBuilder text = new StringBuilder();
        for (int what = 0; what < 8; what++) {
            text.append(what == 0 ? "" : " ").append(council.server(server, what));
        }
        return text.toString();
    }

    /** OLD NEW LEARNERS VOTERS PEERS votes round itself. */
    static String sets(QuorumCouncil council) {
        StringBuilder text = new StringBuilder();
        for (int what = 0; what < 8; what++) {
            text.append(what == 0 ? "" : " ").append(council.council(what));
        }
        return text.toString();
    }
}
