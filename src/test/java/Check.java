import java.util.function.Consumer;
import java.util.function.Supplier;

/**
 * Counts the answers of one test that are not due, and prints each. Looking at all of a council takes 64 calls, and
 * the document promises nothing beyond 512 of one object: so what is refused is asked of a new object each time.
 */
final class Check {
    private int wrong = 0;
    private String sentence = "";

    /** The document's words that the next checks are about, told with each of them that fails. */
    void about(String words) {
        sentence = words + ": ";
    }

    void due(String call, long got, long want) {
        if (got != want) {
            tell(call + " answered " + got + ", due is " + want);
        }
    }

    void due(String call, boolean got, boolean want) {
        if (got != want) {
            tell(call + " answered " + got + ", due is " + want);
        }
    }

    void due(String call, String got, String want) {
        if (!got.equals(want)) {
            tell(call + " answered\n  " + got + ", due is\n  " + want);
        }
    }

    /** The call must throw just that class, and leave what the council shows as it was. */
    void refuses(String call, Supplier<QuorumCouncil> made, Class<? extends RuntimeException> due,
            Consumer<QuorumCouncil> asked) {
        QuorumCouncil council = made.get();
        String before = state(council);
        Class<?> thrown = null;
        try {
            asked.accept(council);
        } catch (RuntimeException e) {
            thrown = e.getClass();
        }
        if (thrown != due) {
            tell(call + " threw " + (thrown == null ? "nothing" : thrown.getName()) + ", due is " + due.getName());
        }
        due("the state after " + call, state(council), before);
    }

    void tell(String what) {
        wrong++;
        System.out.println(sentence + what);
    }

    void end() {
        if (wrong != 0) {
            System.out.println(wrong + " answers are not as due");
            System.exit(1);
        }
    }

    /** All that a council shows: the eight of the council, then the eight of each server. */
    static String state(QuorumCouncil council) {
        StringBuilder text = new StringBuilder("council");
        for (int what = 0; what < 8; what++) {
            text.append(' ').append(council.council(what));
        }
        for (int server = 0; server < 7; server++) {
            text.append(" | ").append(of(council, server));
        }
        return text.toString();
    }

    /** NEXT MATCH FLYING PROBING OFFSET ACK HEARD ANSWERED of one server. */
    static String of(QuorumCouncil council, int server) {
        StringBuilder text = new StringBuilder();
        for (int what = 0; what < 8; what++) {
            text.append(what == 0 ? "" : " ").append(council.server(server, what));
        }
        return text.toString();
    }

    /** OLD NEW LEARNERS VOTERS PEERS votes round itself. */
    static String sets(QuorumCouncil council) {
        StringBuilder text = new StringBuilder();
        for (int what = 0; what < 8; what++) {
            text.append(what == 0 ? "" : " ").append(council.council(what));
        }
        return text.toString();
    }
}
