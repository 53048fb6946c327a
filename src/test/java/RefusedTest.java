import java.util.ArrayList;
import java.util.List;
import java.util.NoSuchElementException;

/**
 * "A call that throws changes nothing; where several exceptions that a call names fit, it is the one
 * that it names first." Each call, with arguments on both sides of each bound and at the ends of an
 * int, in each situation, on an object of its own: what is refused throws what is due, with a look at
 * all that can be asked before and behind it; and an object that has refused many of them goes on like
 * its twin, which was never asked. What is due is told here by the document's bounds alone.
 */
public final class RefusedTest {
    private static final int MIN = Integer.MIN_VALUE;
    private static final int MAX = Integer.MAX_VALUE;

    private static final Class<NoSuchElementException> NONE_SUCH = NoSuchElementException.class;
    private static final Class<IllegalArgumentException> BAD = IllegalArgumentException.class;
    private static final Class<IllegalStateException> NOT_NOW = IllegalStateException.class;
    private static final Class<IndexOutOfBoundsException> OUT = IndexOutOfBoundsException.class;

    private static final int[] CLIENTS = {MIN, -256, -1, 0, 3, 11, 12, 13, 255, 256, MAX};
    private static final int[] SUBNETS = {MIN, -1, 0, 1, 3, 4, MAX};

    private interface Call {
        void on(Subject x);
    }

    /** A situation: the state of client 3, how many packets there are, and what stands on the tape. */
    private static final class Situation {
        final int state;
        final int packets;
        final Msg tape;
        final boolean isBroken;

        Situation(int state, int packets, Msg tape, boolean isBroken) {
            this.state = state;
            this.packets = packets;
            this.tape = tape;
            this.isBroken = isBroken;
        }

        Subject make() {
            Subject x = Scene.inState(state);
            x.pool(0, 2, 3, 16);
            x.pool(1, 40, 50, 30);
            x.strange(2, true);
            Scene.lease(x, 1, 5, 296);
            x.down(state == 4);
            Scene.fillRow(x, packets - 1);
            if (packets > 0) {
                Scene.discover(2, 5).giaddr(257).end().inject(x, 16);
            }
            tape.typeOn(x);
            return x;
        }

        String named() {
            return "client " + Scene.CLIENT + " in state " + state + ", " + packets + " packets, a tape of "
                    + tape.length() + ": ";
        }
    }

    /** So many calls that change nothing are tried on one object before it goes on beside its twin. */
    private static final int AT_ONCE = 120;
    private static final int STEPS = 50;

    private final Situation situation;
    private final String before;
    private final List<Call> unchanging = new ArrayList<>();

    private RefusedTest(Situation situation) {
        this.situation = situation;
        before = Look.all(situation.make());
    }

    public static void main(String[] args) {
        for (Situation s : situations()) {
            RefusedTest test = new RefusedTest(s);
            test.everyCall();
            test.goOnLikeTheirTwin();
        }
        Check.end();
    }

    private static List<Situation> situations() {
        Msg empty = new Msg();
        Msg whole = Scene.discover(9, 2).end();
        Msg longest = Scene.discover(9, 2).end().raw(new int[37]);
        Msg broken = Msg.head(1, 9, 2);
        Msg endless = Scene.discover(9, 2).raw(new int[38]);
        List<Situation> all = new ArrayList<>();
        for (int state = 0; state < 8; state++) {
            all.add(new Situation(state, 1, empty, true));
        }
        all.add(new Situation(0, 0, empty, true));
        all.add(new Situation(3, 0, whole, false));
        all.add(new Situation(3, 2, new Msg().raw(255), true));
        all.add(new Situation(2, 59, broken, true));
        all.add(new Situation(3, 60, longest, false));
        all.add(new Situation(1, 60, endless, true));
        return all;
    }

    private void everyCall() {
        pool();
        join();
        offAndLeave();
        strange();
        packet();
        carryTwiceDrop();
        run();
        type();
        told();
        inject();
        client();
        record();
        count();
    }

    /** A refused call throws just what is due, and nothing that can be asked is another then. */
    private void due(String what, Class<?> kind, Call call) {
        if (kind != null) {
            asks(what, kind, call);
        } else {
            Check.same(situation.named() + what + " is not refused", thrownBy(call, situation.make()) == null, true);
        }
    }

    /** As due, for a call that only asks: then nothing is changed in any case. */
    private void asks(String what, Class<?> kind, Call call) {
        Subject x = situation.make();
        Check.same(situation.named() + what, thrownBy(call, x) == kind, true);
        Check.same(situation.named() + what + " changes nothing", Look.all(x).equals(before), true);
        unchanging.add(call);
    }

    private static Class<?> thrownBy(Call call, Subject x) {
        try {
            call.on(x);
            return null;
        } catch (RuntimeException e) {
            return e.getClass();
        }
    }

    private static boolean isIn(int low, int number, int high) {
        return low <= number && number <= high;
    }

    private boolean isOff(int client) {
        return client != Scene.CLIENT || situation.state == 0;
    }

    private void pool() {
        int[] hosts = {MIN, 1, 2, 3, 250, 251};
        int[] leases = {MIN, 7, 8, 10000, 10001, MAX};
        for (int subnet : SUBNETS) {
            for (int low : hosts) {
                for (int high : hosts) {
                    for (int lease : leases) {
                        boolean fits = 2 <= low && low <= high && high <= 250 && isIn(8, lease, 10000);
                        Class<?> kind = !isIn(0, subnet, 3) ? NONE_SUCH : fits ? null : BAD;
                        due("pool(" + subnet + ", " + low + ", " + high + ", " + lease + ")", kind,
                                x -> x.pool(subnet, low, high, lease));
                    }
                }
            }
        }
    }

    private void join() {
        for (int client : CLIENTS) {
            for (int subnet : SUBNETS) {
                boolean fits = isIn(0, client, 11) && isIn(0, subnet, 3);
                Class<?> kind = !fits ? NONE_SUCH : isOff(client) ? null : NOT_NOW;
                due("join(" + client + ", " + subnet + ")", kind, x -> x.join(client, subnet));
            }
        }
    }

    private void offAndLeave() {
        for (int client : CLIENTS) {
            Class<?> kind = !isIn(0, client, 11) ? NONE_SUCH : isOff(client) ? NOT_NOW : null;
            due("off(" + client + ")", kind, x -> x.off(client));
            due("leave(" + client + ")", kind, x -> x.leave(client));
        }
    }

    private void strange() {
        int[] addresses = {MIN, -1, 0, 1, 2, 255, 256, 1022, 1023, 1024, MAX};
        for (int address : addresses) {
            Class<?> kind = isIn(1, address, 1023) ? null : BAD;
            due("strange(" + address + ", true)", kind, x -> x.strange(address, true));
            due("strange(" + address + ", false)", kind, x -> x.strange(address, false));
        }
    }

    private int[] aroundTheRow() {
        int size = situation.packets;
        return new int[] {MIN, -256, -1, 0, 1, size - 1, size, size + 1, 59, 60, 61, 255, 256, MAX};
    }

    private boolean isUnderWay(int k) {
        return isIn(0, k, situation.packets - 1);
    }

    private void packet() {
        int[] places = {MIN, -4, -3, -2, -1, 0, 1, 2, 22, 23, 59, 60, 255, 256, MAX};
        for (int k : aroundTheRow()) {
            // Scene.fillRow's packets are of one byte, the last one is a DISCOVER of 23.
            int length = k == situation.packets - 1 ? 23 : 1;
            for (int i : places) {
                Class<?> kind = !isUnderWay(k) ? NONE_SUCH : isIn(-2, i, length - 1) ? null : OUT;
                asks("packet(" + k + ", " + i + ")", kind, x -> x.packet(k, i));
            }
        }
    }

    private void carryTwiceDrop() {
        for (int k : aroundTheRow()) {
            Class<?> kind = isUnderWay(k) ? null : NONE_SUCH;
            due("carry(" + k + ")", kind, x -> x.carry(k));
            due("twice(" + k + ")", kind, x -> x.twice(k));
            due("drop(" + k + ")", kind, x -> x.drop(k));
        }
    }

    private void run() {
        int[] numbers = {MIN, -200, -1, 0, 1, 59, 60, 61, 199, 200, 201, 256, MAX};
        for (int n : numbers) {
            due("run(" + n + ")", isIn(0, n, 200) ? null : BAD, x -> x.run(n));
        }
    }

    /** This one answers false instead of throwing, but changes nothing either. */
    private void type() {
        int[] numbers = {MIN, -8, -1, 0, 1, 2, 4, 5, 7, 8, 9, 60, 61, 256, MAX - 59, MAX};
        for (int n : numbers) {
            boolean fits = isIn(1, n, 8) && situation.tape.length() + n <= 60;
            Check.same(situation.named() + "type(-1, " + n + ")", situation.make().type(-1, n), fits);
            if (!fits) {
                asks("type(-1, " + n + ")", null, x -> x.type(-1, n));
            }
        }
    }

    private void told() {
        int[] whats = {MIN, -2, -1, 0, 1, 6, 7, 8, 10, 11, 12, 255, 256, MAX};
        for (int what : whats) {
            Class<?> kind = !isIn(0, what, 10) ? OUT : situation.isBroken ? BAD : null;
            asks("told(" + what + ")", kind, x -> x.told(what));
        }
    }

    private void inject() {
        int[] places = {MIN, -1, 0, 11, 12, 13, 15, 16, 17, 255, 256, MAX};
        for (int place : places) {
            boolean fits = isIn(0, place, 16) && place != 12 && situation.tape.length() > 0;
            due("inject(" + place + ")", fits ? null : BAD, x -> x.inject(place));
        }
    }

    private void client() {
        int[] whats = {MIN, -1, 0, 3, 6, 7, 8, 255, 256, MAX};
        for (int client : CLIENTS) {
            for (int what : whats) {
                Class<?> kind = !isIn(0, client, 11) ? NONE_SUCH : isIn(0, what, 6) ? null : OUT;
                asks("client(" + client + ", " + what + ")", kind, x -> x.client(client, what));
            }
        }
    }

    private void record() {
        int[] addresses = {MIN, -1, 0, 1, 2, 255, 256, 296, 1022, 1023, 1024, MAX};
        int[] whats = {MIN, -1, 0, 1, 2, 3, 255, 256, MAX};
        for (int address : addresses) {
            for (int what : whats) {
                Class<?> kind = isIn(1, address, 1023) && isIn(0, what, 2) ? null : OUT;
                asks("record(" + address + ", " + what + ")", kind, x -> x.record(address, what));
            }
        }
    }

    private void count() {
        int[] whats = {MIN, -1, 0, 1, 2, 3, 4, 5, 6, 255, 256, MAX};
        for (int what : whats) {
            asks("count(" + what + ")", isIn(0, what, 4) ? null : OUT, x -> x.count(what));
        }
    }

    /** What can't be asked (the tape, the pools, what is strange, the times) shows in what comes. */
    private void goOnLikeTheirTwin() {
        List<String> twin = comesOf(situation.make());
        for (int at = 0; at < unchanging.size(); at += AT_ONCE) {
            Subject x = situation.make();
            for (int j = at; j < Math.min(at + AT_ONCE, unchanging.size()); j++) {
                thrownBy(unchanging.get(j), x);
            }
            Check.same(situation.named() + "as its twin, from call " + at, comesOf(x).equals(twin), true);
        }
    }

    /** How it looks in what comes. */
    private List<String> comesOf(Subject x) {
        List<String> looks = new ArrayList<>();
        for (int t = 0; t < STEPS; t++) {
            oneStep(x, t);
            if (t < 3 || t == 14 || t == STEPS - 1) {
                looks.add(Look.all(x));
            }
        }
        return looks;
    }

    private void oneStep(Subject x, int t) {
        if (t == 0 && situation.tape.length() > 0) {
            x.inject(7);
        }
        if (t == 1) {
            x.run(200);
            Scene.request(1, 5).ciaddr(296).end().bring(x, 16);
            x.down(false);
        }
        if (t >= 2 && t < 14 && new Look(x).client(t - 2, 0) == 0) {
            x.join(t - 2, t % 2);
        }
        if (t > 2) {
            x.run(200);
        }
        x.tick();
    }
}
