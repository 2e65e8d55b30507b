import java.util.Set;
import java.util.TreeSet;

/** The document said a second time, with sets and objects of the library, slow and plain: to compare with. */
final class Model {
    static final class Kept {
        long next, match, flying, offset, ack, heard;
        boolean probing, answered;
    }

    private final int itself;
    private Set<Integer> old;
    private Set<Integer> fresh = new TreeSet<>();
    private Set<Integer> learners = new TreeSet<>();
    private final Set<Integer> votes = new TreeSet<>();
    private final Kept[] kept = new Kept[7];
    private long round = 0;

    Model(int itself, int old) {
        this.itself = Math.min(Math.floorMod(itself, 8), 6);
        this.old = set(Math.floorMod(old, 128));
        if (this.old.isEmpty()) {
            this.old.add(0);
        }
        for (int s = 0; s < 7; s++) {
            kept[s] = new Kept();
        }
    }

    /** What a call answers: a number (a boolean counts 1 or 0, void 0), or an exception. */
    long call(String name, int[] a) {
        switch (name) {
            case "members": return members(a[0], a[1], a[2]);
            case "change": return change(a[0], a[1]);
            case "settle": return settle();
            case "majority": set(a[0], 0); return truth(majority(set(a[0])));
            case "ballot": votes.clear(); return 0;
            case "vote": kept(a[0]); votes.add(a[0]); return truth(majority(votes));
            case "lead": return lead(a[0], a[1]);
            case "round": return round();
            case "sending": return sending(a[0], a[1], a[2], a[3] != 0);
            case "matched": return matched(kept(a[0]), a[1], a[2], a[3]);
            case "refused": return refused(kept(a[0]), a[1], a[2], a[3], a[4]);
            case "stored": return stored(kept(a[0]), a[1], a[2], a[3], a[4], a[5]);
            case "own": return own(a[0], a[1]);
            case "agreed": return agreed(a[0]);
            case "server": return server(kept(a[0]), a[1]);
            case "council": return council(a[0]);
            default: throw new AssertionError(name);
        }
    }

    private long members(int o, int n, int l) {
        set(o, 1);
        set(n, 0);
        set(l, 0);
        Set<Integer> both = set(l);
        Set<Integer> voters = set(o);
        voters.addAll(set(n));
        both.retainAll(voters);
        argument(both.isEmpty());
        old = set(o);
        fresh = set(n);
        learners = set(l);
        return 0;
    }

    private long change(int target, int least) {
        set(target, 1);
        for (int s : set(target)) {
            argument(old.contains(s) || learners.contains(s) && kept[s].match >= least);
        }
        state(fresh.isEmpty());
        fresh = set(target);
        learners.removeAll(fresh);
        return 0;
    }

    private long settle() {
        state(!fresh.isEmpty());
        old = fresh;
        fresh = new TreeSet<>();
        return truth(old.contains(itself));
    }

    private long lead(int last, int now) {
        numbers(last, now);
        for (Kept k : kept) {
            k.next = last + 1L;
            k.match = k.flying = k.offset = k.ack = 0;
            k.probing = true;
            k.heard = now;
            k.answered = false;
        }
        round = 0;
        return 0;
    }

    private long round() {
        for (int s : peers()) {
            if (kept[s].flying != 0 && !kept[s].answered) {
                kept[s].next = kept[s].match + 1;
                kept[s].flying = 0;
                kept[s].probing = true;
            }
        }
        for (Kept k : kept) {
            k.answered = false;
        }
        return ++round;
    }

    private long sending(int server, int base, int last, boolean beat) {
        if (!peers().contains(server)) {
            throw new IndexOutOfBoundsException();
        }
        numbers(base, last);
        argument(last >= base);
        Kept k = kept[server];
        if (k.next <= base) {
            boolean flew = k.flying != 0;
            k.flying = flew ? k.flying : 1;
            return flew ? 0 : 8;
        }
        long sent = 0;
        if (k.flying < (k.probing ? 1 : 4)) {
            while (sent < 6 && k.next <= last) {
                k.next++;
                sent++;
            }
        }
        if (sent > 0) {
            k.flying++;
            return sent;
        }
        return beat ? 7 : 0;
    }

    private long matched(Kept k, int number, int ack, int now) {
        numbers(number, ack, now);
        hear(k, ack, now);
        if (k.match < number) {
            k.match = number;
        }
        k.probing = false;
        if (k.flying > 0) {
            k.flying--;
        }
        if (k.next <= number) {
            k.next = number + 1L;
        }
        return k.match;
    }

    private long refused(Kept k, int from, int last, int ack, int now) {
        numbers(from, last, ack, now);
        hear(k, ack, now);
        k.flying = 0;
        k.probing = true;
        k.next = from;
        if (k.next <= k.match) {
            k.next = k.match + 1;
        }
        if (k.next > last + 1L) {
            k.next = last + 1L;
        }
        return k.next;
    }

    private long stored(Kept k, int bytes, int size, int base, int ack, int now) {
        numbers(bytes, size, base, ack, now);
        hear(k, ack, now);
        k.flying = 0;
        boolean all = bytes >= size;
        if (all) {
            k.match = k.match < base ? base : k.match;
            k.next = base + 1L;
            k.probing = true;
        }
        k.offset = all ? 0 : bytes;
        return truth(all);
    }

    private long own(int number, int now) {
        numbers(number, now);
        kept[itself].match = number;
        kept[itself].heard = now;
        kept[itself].ack = round;
        return 0;
    }

    /** From each voter's number, the greatest that holds: the numbers of voters are all that can be the answer. */
    private long agreed(int what) {
        argument(what >= 0 && what <= 2);
        int row = what == 0 ? 1 : what + 4;
        long greatest = -1;
        for (int voter : voters()) {
            long v = server(kept[voter], row);
            Set<Integer> have = new TreeSet<>();
            for (int s = 0; s < 7; s++) {
                if (server(kept[s], row) >= v) {
                    have.add(s);
                }
            }
            if (majority(have) && v > greatest) {
                greatest = v;
            }
        }
        return greatest;
    }

    private long server(Kept k, int what) {
        if (what < 0 || what > 7) {
            throw new IndexOutOfBoundsException();
        }
        return new long[] {k.next, k.match, k.flying, truth(k.probing), k.offset, k.ack, k.heard,
            truth(k.answered)}[what];
    }

    private long council(int what) {
        return what < 0 || what > 7 ? -1 : new long[] {bits(old), bits(fresh), bits(learners), bits(voters()),
            bits(peers()), bits(votes), round, itself}[what];
    }

    private void hear(Kept k, int ack, int now) {
        k.heard = now;
        k.answered = true;
        k.ack = k.ack < ack ? ack : k.ack;
    }

    private boolean majority(Set<Integer> some) {
        return majority(some, old) && (fresh.isEmpty() || majority(some, fresh));
    }

    private static boolean majority(Set<Integer> some, Set<Integer> whole) {
        Set<Integer> inside = new TreeSet<>(whole);
        inside.retainAll(some);
        return inside.size() > whole.size() / 2.0;
    }

    private Set<Integer> voters() {
        Set<Integer> all = new TreeSet<>(old);
        all.addAll(fresh);
        return all;
    }

    private Set<Integer> peers() {
        Set<Integer> all = voters();
        all.addAll(learners);
        all.remove(itself);
        return all;
    }

    private Kept kept(int server) {
        if (server < 0 || server > 6) {
            throw new IndexOutOfBoundsException();
        }
        return kept[server];
    }

    private static Set<Integer> set(int bits) {
        Set<Integer> all = new TreeSet<>();
        for (int s = 0; s < 7; s++) {
            if (bits / (1 << s) % 2 != 0) {
                all.add(s);
            }
        }
        return all;
    }

    private static long bits(Set<Integer> all) {
        long sum = 0;
        for (int s : all) {
            sum += 1L << s;
        }
        return sum;
    }

    private static long truth(boolean is) {
        return is ? 1 : 0;
    }

    private static void set(int bits, int least) {
        argument(bits >= least && bits <= 127);
    }

    private static void numbers(int... all) {
        for (int n : all) {
            argument(n >= 0 && n <= 1000000000);
        }
    }

    private static void argument(boolean right) {
        if (!right) {
            throw new IllegalArgumentException();
        }
    }

    private static void state(boolean right) {
        if (!right) {
            throw new IllegalStateException();
        }
    }
}
