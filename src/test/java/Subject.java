import java.util.ArrayList;
import java.util.List;

/**
 * A LeaseNet that a test uses, with the calls that it has had. The document promises the answers to
 * 512 calls of an object, so that no test may rest on a later one: the 513th ends the test. The same
 * calls always give the same answers, so they can be played again on a new object, and all of them
 * can be looked at there.
 */
final class Subject {
    static final int CALLS = 512;

    /** A call, and what it answered. */
    interface Call {
        int on(LeaseNet x);
    }

    private final LeaseNet net = new LeaseNet();
    private final List<Call> calls = new ArrayList<>();

    int callsLeft() {
        return CALLS - calls.size();
    }

    /** A new object that has had the same calls, and as many calls left. */
    LeaseNet playedAgain() {
        LeaseNet x = new LeaseNet();
        for (Call c : calls) {
            try {
                c.on(x);
            } catch (RuntimeException e) {
                // What was refused is refused again.
                continue;
            }
        }
        return x;
    }

    private int does(Call c) {
        if (calls.size() == CALLS) {
            throw new AssertionError("more than 512 calls of one object");
        }
        calls.add(c);
        return c.on(net);
    }

    void pool(int subnet, int low, int high, int lease) {
        does(x -> {
            x.pool(subnet, low, high, lease);
            return 0;
        });
    }

    void join(int client, int subnet) {
        does(x -> {
            x.join(client, subnet);
            return 0;
        });
    }

    void off(int client) {
        does(x -> {
            x.off(client);
            return 0;
        });
    }

    void leave(int client) {
        does(x -> {
            x.leave(client);
            return 0;
        });
    }

    void strange(int address, boolean is) {
        does(x -> {
            x.strange(address, is);
            return 0;
        });
    }

    void down(boolean is) {
        does(x -> {
            x.down(is);
            return 0;
        });
    }

    int tick() {
        return does(LeaseNet::tick);
    }

    int packets() {
        return does(LeaseNet::packets);
    }

    int packet(int k, int i) {
        return does(x -> x.packet(k, i));
    }

    int carry(int k) {
        return does(x -> x.carry(k));
    }

    void twice(int k) {
        does(x -> {
            x.twice(k);
            return 0;
        });
    }

    void drop(int k) {
        does(x -> {
            x.drop(k);
            return 0;
        });
    }

    int run(int n) {
        return does(x -> x.run(n));
    }

    boolean type(long w, int n) {
        return does(x -> x.type(w, n) ? 1 : 0) == 1;
    }

    int told(int what) {
        return does(x -> x.told(what));
    }

    void inject(int place) {
        does(x -> {
            x.inject(place);
            return 0;
        });
    }

    int client(int client, int what) {
        return does(x -> x.client(client, what));
    }

    int record(int address, int what) {
        return does(x -> x.record(address, what));
    }

    int count(int what) {
        return does(x -> x.count(what));
    }
}
