import java.util.function.Supplier;

/**
 * What a sentence does not name of a message does not matter to it: the message does the same with
 * anything there, be it a field, or an option that counts for others.
 */
public final class UnnamedTest {
    private static final int MIN = Integer.MIN_VALUE;
    private static final int MAX = Integer.MAX_VALUE;
    private static final int C = Scene.CLIENT;
    private static final int SERVER = 16;
    private static final int[] NUMBERS = {MIN, -1, 1, 2, 3, 8, 255, 256, 300, 1023, 1024, 10001, MAX};

    public static void main(String[] args) {
        discover();
        requestWithServer();
        requestWithoutServer();
        declineAndRelease();
        offer();
        ack();
        nak();
        relay();
        Check.end();
    }

    /** With a number in one field after the other; the message has no end yet. */
    private static void unnamed(String what, Supplier<Subject> made, int place, Supplier<Msg> message, String fields) {
        Subject asItIs = made.get();
        String before = Look.all(asItIs);
        message.get().end().bring(asItIs, place);
        String due = Look.all(asItIs);
        Check.same(what + " does something", due.equals(before), false);
        for (String field : fields.split(" ")) {
            for (int n : NUMBERS) {
                Subject x = made.get();
                with(message.get(), field, n).end().bring(x, place);
                Check.same(what + " with " + field + " " + n, Look.all(x).equals(due), true);
            }
        }
    }

    private static Msg with(Msg m, String field, int n) {
        switch (field) {
            case "hops":
                return m.hops(n & 255);
            case "ciaddr":
                return m.ciaddr(n);
            case "yiaddr":
                return m.yiaddr(n);
            case "giaddr":
                return m.giaddr(n);
            case "wanted":
                return m.wanted(n);
            case "lease":
                return m.lease(n);
            default:
                return m.server(n);
        }
    }

    /** Address 2 is leased to client 0, address 3 offered to client 1; it is 1. */
    private static Subject server() {
        Subject x = new Subject();
        x.pool(0, 2, 9, 16);
        Scene.lease(x, 1, 0, 2);
        Scene.discover(1, 1).end().bring(x, SERVER);
        Scene.clear(x);
        x.tick();
        return x;
    }

    /** With a giaddr, so that ciaddr does not tell the subnet. */
    private static void discover() {
        unnamed("DISCOVER", UnnamedTest::server, SERVER, () -> Scene.discover(2, 5).giaddr(1),
                "hops ciaddr yiaddr lease server");
        unnamed("DISCOVER with wanted", UnnamedTest::server, SERVER, () -> Scene.discover(2, 5).giaddr(1).wanted(7),
                "hops ciaddr yiaddr lease server");
        unnamed("DISCOVER of one that has an address", UnnamedTest::server, SERVER,
                () -> Scene.discover(2, 1).giaddr(1), "hops ciaddr yiaddr wanted lease server");
    }

    private static void requestWithServer() {
        unnamed("REQUEST", UnnamedTest::server, SERVER, () -> Scene.request(2, 1).giaddr(1).wanted(3).server(1),
                "hops ciaddr yiaddr lease");
        unnamed("REQUEST for another's", UnnamedTest::server, SERVER,
                () -> Scene.request(2, 1).giaddr(1).wanted(2).server(1), "hops ciaddr yiaddr lease");
        unnamed("REQUEST to another server", UnnamedTest::server, SERVER,
                () -> Scene.request(2, 1).giaddr(1).server(9), "hops ciaddr yiaddr wanted lease");
    }

    private static void requestWithoutServer() {
        unnamed("REQUEST with ciaddr", UnnamedTest::server, SERVER, () -> Scene.request(2, 0).ciaddr(2),
                "hops yiaddr wanted lease");
        unnamed("REQUEST with another's ciaddr", UnnamedTest::server, SERVER, () -> Scene.request(2, 0).ciaddr(3),
                "hops yiaddr wanted lease");
        unnamed("REQUEST with wanted", UnnamedTest::server, SERVER, () -> Scene.request(2, 0).wanted(2),
                "hops yiaddr lease");
        unnamed("REQUEST with another's wanted", UnnamedTest::server, SERVER, () -> Scene.request(2, 0).wanted(3),
                "hops yiaddr lease");
    }

    private static void declineAndRelease() {
        unnamed("DECLINE", UnnamedTest::server, SERVER, () -> Msg.toServer(Msg.DECLINE, 2, 0).giaddr(1).wanted(2),
                "hops ciaddr yiaddr lease server");
        unnamed("RELEASE", UnnamedTest::server, SERVER, () -> Msg.toServer(Msg.RELEASE, 2, 0).ciaddr(2),
                "hops yiaddr wanted lease server");
    }

    private static void offer() {
        unnamed("OFFER", () -> Scene.inState(1), C, () -> Msg.toClient(Msg.OFFER, 1, C).yiaddr(301).server(9),
                "hops ciaddr giaddr wanted lease");
    }

    private static int xid(int state) {
        return new Look(Scene.inState(state)).client(C, 4);
    }

    private static Subject amongStrangers(int state) {
        Subject x = Scene.inState(state);
        x.strange(301, true);
        return x;
    }

    private static void ack() {
        int[] states = {2, 4, 5, 6};
        for (int state : states) {
            int xid = xid(state);
            Supplier<Msg> message = () -> Msg.toClient(Msg.ACK, xid, C).yiaddr(301).lease(80);
            unnamed("ACK in " + state, () -> Scene.inState(state), C, message, "hops ciaddr giaddr wanted server");
            unnamed("ACK of a strange one in " + state, () -> amongStrangers(state), C, message,
                    "hops ciaddr giaddr wanted server");
        }
    }

    private static void nak() {
        int[] states = {2, 4, 5, 6};
        for (int state : states) {
            int xid = xid(state);
            unnamed("NAK in " + state, () -> Scene.inState(state), C, () -> Msg.toClient(Msg.NAK, xid, C),
                    "hops ciaddr yiaddr giaddr wanted lease server");
        }
    }

    /** A relay passes on all of it: any type or none, what does not count, and what follows the end. */
    private static void relay() {
        for (int op = 1; op <= 2; op++) {
            for (int type = 0; type < 256; type++) {
                passes("type " + type, Msg.head(op, 7, 5).raw(53, 1, type).end());
            }
            passes("no type", Msg.head(op, 7, 5).end());
            passes("two types", Msg.head(op, 7, 5).raw(53, 1, 9, 53, 1, 1).end());
            passes("what does not count", Msg.head(op, 7, 5).raw(0, 9, 3, 1, 2, 3, 0, 0).lease(6).wanted(5).end());
            passes("what follows the end", Msg.head(op, 7, 5).end().raw(53, 1, 4, 50, 9, 255, 0));
            passes("60 bytes", Msg.head(op, 7, 5).end().raw(new int[39]).raw(77));
            for (int n : NUMBERS) {
                passes("numbers " + n, Msg.head(op, n, 5).ciaddr(n).yiaddr(n).wanted(n).lease(n).server(n).end());
            }
        }
    }

    private static void passes(String what, Msg m) {
        Subject x = new Subject();
        m.bring(x, 14);
        if (m.at(0) == 1) {
            Check.packet("to the server: " + what, x, 0, SERVER, m.hops(1).giaddr(513));
        } else {
            Check.packet("back: " + what, x, 0, 5, m);
        }
    }
}
