import java.util.NoSuchElementException;

/** Promises 9 to 14 and what 20 tells of the net: the row, what is lost, and the relays. */
public final class NetTest {
    public static void main(String[] args) {
        order();
        packetRefuses();
        carry();
        twice();
        drop();
        run();
        runStops();
        lost();
        relayToServer();
        relayHops();
        relayToClient();
        strangePlaces();
        count();
        Check.end();
    }

    private static Subject three() {
        Subject x = new Subject();
        x.pool(0, 2, 9, 16);
        x.join(0, 0);
        x.join(1, 1);
        x.join(2, 0);
        return x;
    }

    private static Msg discover(int client) {
        return Msg.toServer(Msg.DISCOVER, 1, client).end();
    }

    private static void order() {
        Subject x = three();
        Check.same("three are under way", x.packets(), 3);
        Check.packet("first", x, 0, 16, discover(0));
        Check.packet("second", x, 1, 13, discover(1));
        Check.packet("third", x, 2, 16, discover(2));
        Check.same("a byte is 0 .. 255", x.packet(0, 22), 255);
    }

    private static void packetRefuses() {
        Subject x = three();
        int[] none = {-1, 3, 60, Integer.MIN_VALUE, Integer.MAX_VALUE};
        for (int k : none) {
            Check.fails("packet " + k, x, NoSuchElementException.class, () -> x.packet(k, 0));
            Check.fails("packet " + k + " byte -3", x, NoSuchElementException.class, () -> x.packet(k, -3));
            Check.fails("carry " + k, x, NoSuchElementException.class, () -> x.carry(k));
            Check.fails("twice " + k, x, NoSuchElementException.class, () -> x.twice(k));
            Check.fails("drop " + k, x, NoSuchElementException.class, () -> x.drop(k));
        }
        int[] bad = {-3, 23, Integer.MIN_VALUE, Integer.MAX_VALUE};
        for (int i : bad) {
            Check.fails("byte " + i, x, IndexOutOfBoundsException.class, () -> x.packet(0, i));
        }
        Check.same("byte 22", x.packet(2, 22), 255);
    }

    private static void carry() {
        Subject x = three();
        Check.same("carry tells the place", x.carry(1), 13);
        Check.same("what it makes is behind", x.packets(), 3);
        Check.packet("the first stays", x, 0, 16, discover(0));
        Check.packet("the third moves up", x, 1, 16, discover(2));
        Check.packet("the relay's is last", x, 2, 16, discover(1).hops(1).giaddr(257));
        Check.same("carry the last", x.carry(2), 16);
        Check.same("subnet 1 has no pool", x.packets(), 2);
        Check.same("carry the first", x.carry(0), 16);
        Check.same("carry the offer", x.carry(1), 0);
        Check.same("it is requesting", x.client(0, 0), 2);
    }

    private static void twice() {
        Subject x = three();
        x.twice(0);
        Check.same("it stays", x.packets(), 4);
        Check.packet("it stays first", x, 0, 16, discover(0));
        Check.packet("answered", x, 3, 0, Msg.toClient(Msg.OFFER, 1, 0).yiaddr(2).lease(16).server(1).end());
        x.twice(1);
        Check.packet("the relay's own is not changed", x, 1, 13, discover(1));
        Check.packet("what goes on is", x, 4, 16, discover(1).hops(1).giaddr(257));
        x.twice(0);
        Check.packet("answered again", x, 5, 0, Msg.toClient(Msg.OFFER, 1, 0).yiaddr(2).lease(16).server(1).end());
        x.twice(3);
        Check.same("the offer is taken", x.client(0, 0), 2);
        x.twice(3);
        Check.same("once", x.packets(), 7);
    }

    private static void drop() {
        Subject x = three();
        x.drop(1);
        Check.same("dropped", x.packets(), 2);
        Check.packet("before it", x, 0, 16, discover(0));
        Check.packet("behind it", x, 1, 16, discover(2));
        x.drop(0);
        x.drop(0);
        Check.same("all dropped", x.packets(), 0);
        Check.same("nothing came to the server", x.count(2), 0);
        Check.same("dropped is not lost", x.count(1), 0);
        Check.fails("drop of none", x, NoSuchElementException.class, () -> x.drop(0));
    }

    private static void run() {
        Subject x = three();
        int[] bad = {-1, 201, Integer.MIN_VALUE, Integer.MAX_VALUE};
        for (int n : bad) {
            Check.fails("run " + n, x, IllegalArgumentException.class, () -> x.run(n));
        }
        Check.same("run(0)", x.run(0), 0);
        Check.same("run(0) carries none", x.packets(), 3);
        Check.same("run(1)", x.run(1), 1);
        Check.packet("the first was carried", x, 0, 13, discover(1));
        Check.same("what came of it is last", x.packet(2, -1), 0);
        Check.same("run(200) to the end", x.run(200), 9);
        Check.same("none is left", x.packets(), 0);
        Check.same("run of none", x.run(200), 0);
        Check.client("0", x, 0, 3, 2, 16);
        Check.client("2", x, 2, 3, 3, 16);
    }

    private static void runStops() {
        Subject x = new Subject();
        x.pool(1, 2, 60, 16);
        for (int k = 0; k < 60; k++) {
            discover(k % 12).inject(x, 13);
        }
        Check.same("200 of 240: relay, server, relay, client", x.run(200), 200);
        Check.same("40 are left", x.packets(), 40);
        Check.same("run(40)", x.run(40), 40);
        Check.same("none is left of 240", x.packets(), 0);
    }

    private static void lost() {
        Subject x = new Subject();
        x.pool(0, 2, 9, 16);
        for (int k = 0; k < 60; k++) {
            discover(k % 12).inject(x, 16);
        }
        Check.same("60 are under way", x.packets(), 60);
        Check.same("none is lost", x.count(1), 0);
        discover(3).inject(x, 16);
        Check.same("still 60", x.packets(), 60);
        Check.same("one is lost", x.count(1), 1);
        Check.fails("the tape was taken all the same", x, IllegalArgumentException.class, () -> x.inject(16));
        x.join(7, 0);
        Check.client("a client does not know of it", x, 7, 1, 0, 0, 0, 1, 1, 0);
        Check.same("two are lost", x.count(1), 2);
        x.twice(0);
        Check.same("there is no room for the answer", x.count(1), 3);
        Check.record("but there is a record", x, 2, 1, 0, 8);
        x.carry(59);
        Check.same("one that is carried makes room", x.count(1), 3);
        Check.packet("for its answer", x, 59, 11,
                Msg.toClient(Msg.OFFER, 1, 11).yiaddr(3).lease(16).server(1).end());
        Check.same("60 again", x.packets(), 60);
        Check.same("59 and 39 answers, and the one before", x.run(200), 99);
        Check.same("and none of those was lost", x.count(1), 3);
    }

    private static void relayToServer() {
        Subject x = new Subject();
        for (int s = 1; s < 4; s++) {
            Msg.toServer(Msg.DISCOVER, -2, 200).ciaddr(5).yiaddr(6).raw(99, 2, 1, 2).end().raw(7, 8).bring(x, 12 + s);
            Check.packet("relay " + s, x, s - 1, 16, Msg.toServer(Msg.DISCOVER, -2, 200).hops(1).ciaddr(5)
                    .yiaddr(6).giaddr(256 * s + 1).raw(99, 2, 1, 2).end().raw(7, 8));
        }
        Msg.toServer(Msg.DISCOVER, 1, 0).giaddr(-7).end().bring(x, 14);
        Check.packet("giaddr stays", x, 3, 16, Msg.toServer(Msg.DISCOVER, 1, 0).hops(1).giaddr(-7).end());
        Msg.toServer(Msg.DISCOVER, 1, 0).bring(x, 14);
        Msg.toServer(Msg.DISCOVER, 1, 0).raw(50, 3, 0, 0, 0).end().bring(x, 14);
        new Msg().raw(1, 2, 3).bring(x, 14);
        Msg.head(3, 1, 0).end().bring(x, 14);
        Check.same("broken ones do not go on", x.packets(), 4);
    }

    private static void relayHops() {
        Subject x = new Subject();
        for (int hops = 0; hops < 4; hops++) {
            Msg.toServer(Msg.DISCOVER, 1, 0).hops(hops).end().bring(x, 13);
            Check.packet("hops " + hops, x, hops, 16,
                    Msg.toServer(Msg.DISCOVER, 1, 0).hops(hops + 1).giaddr(257).end());
        }
        int[] many = {4, 5, 127, 128, 255};
        for (int hops : many) {
            Msg.toServer(Msg.DISCOVER, 1, 0).hops(hops).end().bring(x, 13);
            Check.same("hops " + hops, x.packets(), 4);
        }
    }

    private static void relayToClient() {
        Subject x = new Subject();
        Msg to = Msg.toClient(Msg.NAK, 9, 11).hops(200).giaddr(0).raw(0, 0).end().raw(1);
        to.bring(x, 15);
        Check.packet("to the client, as it came", x, 0, 11, to);
        Msg.toClient(Msg.NAK, 9, 12).end().bring(x, 15);
        Msg.toClient(Msg.NAK, 9, 255).end().bring(x, 15);
        Check.same("no such client", x.packets(), 1);
    }

    private static void strangePlaces() {
        Subject x = new Subject();
        x.pool(0, 2, 9, 16);
        Msg.toClient(Msg.DISCOVER, 1, 0).end().bring(x, 16);
        Check.same("the server does not look at op 2", x.count(2), 0);
        x.join(0, 0);
        Msg.toServer(Msg.OFFER, 1, 0).yiaddr(2).server(1).end().bring(x, 0);
        Check.same("a client does not look at op 1", x.client(0, 0), 1);
        Msg.toClient(Msg.OFFER, 1, 0).yiaddr(2).server(1).end().bring(x, 1);
        Check.same("nor another client at it", x.packets(), 1);
    }

    private static void count() {
        Subject x = three();
        int[] bad = {-1, 5, Integer.MIN_VALUE, Integer.MAX_VALUE};
        for (int w : bad) {
            Check.fails("count " + w, x, IndexOutOfBoundsException.class, () -> x.count(w));
        }
        Check.same("time", x.count(0), 0);
        Check.same("tick", x.tick(), 1);
        Check.same("tick", x.tick(), 2);
        Check.same("time", x.count(0), 2);
        Check.same("free", x.count(4), 8);
        x.run(200);
        Check.same("records", x.count(2), 2);
        Check.same("free, but two", x.count(4), 6);
        x.off(0);
        x.off(2);
        for (int t = 2; t < 17; t++) {
            x.tick();
        }
        Check.same("not yet free", x.count(4), 6);
        x.tick();
        Check.same("free at their end", x.count(4), 8);
        Check.same("the records stay", x.count(2), 2);
    }
}
