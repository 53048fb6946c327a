/** The server: promises 7, 19, 20, and what it does with each message. */
public final class ServerTest {
    public static void main(String[] args) {
        subnets();
        notLookedAt();
        xids();
        discoverOwn();
        discoverWanted();
        discoverOldest();
        discoverLast();
        discoverLeased();
        requestOfOffer();
        requestKeepsLonger();
        requestOfOther();
        requestWithoutServer();
        exchange();
        requestExpired();
        decline();
        release();
        otherTypes();
        recordRefuses();
        Check.end();
    }

    private static Subject withPool(int low, int high, int lease) {
        Subject x = new Subject();
        x.pool(0, low, high, lease);
        return x;
    }

    private static Msg offer(int xid, int client, int address, int lease) {
        return Msg.toClient(Msg.OFFER, xid, client).yiaddr(address).lease(lease).server(1).end();
    }

    private static Msg ack(int xid, int client, int address, int lease) {
        return Msg.toClient(Msg.ACK, xid, client).yiaddr(address).lease(lease).server(1).end();
    }

    private static Msg nak(int xid, int client) {
        return Msg.toClient(Msg.NAK, xid, client).server(1).end();
    }

    /** The message comes to the server, whose one answer is this one (null: none). */
    private static void asks(String when, Subject x, Msg asked, int place, Msg answer) {
        int before = x.packets();
        asked.end().bring(x, 16);
        Check.same(when + ": answers", x.packets() - before, answer == null ? 0 : 1);
        if (answer != null && x.packets() > before) {
            Check.packet(when, x, before, place, answer);
            x.drop(before);
        }
    }

    private static void silent(String when, Subject x, Msg asked) {
        asks(when, x, asked, 0, null);
    }

    private static void subnets() {
        Subject x = new Subject();
        for (int s = 0; s < 4; s++) {
            x.pool(s, 10 * s + 2, 10 * s + 9, 20 + s);
        }
        asks("both 0", x, Scene.discover(1, 3), 3, offer(1, 3, 2, 20));
        asks("giaddr 257", x, Scene.discover(1, 3).giaddr(257), 13, offer(1, 3, 268, 21).giaddr(257));
        asks("giaddr 767", x, Scene.discover(1, 3).giaddr(767), 14, offer(1, 3, 534, 22).giaddr(767));
        asks("giaddr 768", x, Scene.discover(1, 3).giaddr(768), 15, offer(1, 3, 800, 23).giaddr(768));
        asks("giaddr of subnet 0", x, Scene.discover(1, 4).giaddr(5), 4, offer(1, 4, 3, 20).giaddr(5));
        asks("giaddr of subnet 0 again", x, Scene.discover(1, 4).giaddr(255), 4, offer(1, 4, 3, 20).giaddr(255));
        asks("ciaddr", x, Scene.discover(1, 5).ciaddr(512), 5, offer(1, 5, 534, 22).yiaddr(535));
        asks("giaddr before ciaddr", x, Scene.discover(1, 5).ciaddr(512).giaddr(300), 13,
                offer(1, 5, 269, 21).giaddr(300));
        asks("hops are not answered", x, Scene.discover(1, 5).hops(9), 5, offer(1, 5, 4, 20));
        int[] none = {1024, 1025, -1, -256, Integer.MIN_VALUE, Integer.MAX_VALUE};
        for (int a : none) {
            silent("giaddr " + a, x, Scene.discover(9, 6).giaddr(a));
            silent("ciaddr " + a, x, Scene.discover(9, 6).ciaddr(a));
            silent("giaddr " + a + " with ciaddr", x, Scene.discover(9, 6).giaddr(a).ciaddr(5));
        }
        asks("their xid was not looked at", x, Scene.discover(8, 6), 6, offer(8, 6, 5, 20));
    }

    private static void notLookedAt() {
        Subject x = withPool(2, 9, 16);
        silent("no client 12", x, Scene.discover(1, 12));
        silent("no client 255", x, Scene.discover(1, 255));
        silent("no pool", x, Scene.discover(7, 0).giaddr(257));
        Check.same("no records", x.count(2), 0);
        Msg.toServer(Msg.DISCOVER, 7, 0).bring(x, 16);
        asks("a broken one's xid is not kept", x, Scene.discover(6, 0), 0, offer(6, 0, 2, 16));
        x.pool(1, 2, 3, 16);
        asks("client 11", x, Scene.discover(1, 11).giaddr(257), 13, offer(1, 11, 258, 16).giaddr(257));
    }

    private static void xids() {
        Subject x = withPool(2, 9, 16);
        asks("any at first", x, Scene.discover(Integer.MIN_VALUE, 0), 0, offer(Integer.MIN_VALUE, 0, 2, 16));
        asks("-1", x, Scene.discover(-1, 0), 0, offer(-1, 0, 2, 16));
        asks("the same again", x, Scene.discover(-1, 0), 0, offer(-1, 0, 2, 16));
        silent("less", x, Scene.discover(-2, 0));
        asks("as an int", x, Scene.discover(3, 0), 0, offer(3, 0, 2, 16));
        silent("less than 3", x, Scene.request(2, 0).wanted(2).server(1));
        silent("highest bit", x, Scene.request(0x80000004, 0).wanted(2).server(1));
        asks("each client has its own", x, Scene.discover(1, 1), 1, offer(1, 1, 3, 16));
        silent("one of no type", x, Msg.head(1, 10, 0));
        silent("is looked at", x, Scene.discover(9, 0));
        silent("one of another type", x, Msg.toServer(200, 12, 0));
        silent("is looked at too", x, Scene.discover(11, 0));
        Msg.toServer(Msg.DISCOVER, 20, 0).end().inject(x, 16);
        x.down(true);
        x.carry(0);
        x.down(false);
        asks("not while down", x, Scene.discover(12, 0), 0, offer(12, 0, 2, 16));
    }

    private static void discoverOwn() {
        Subject x = withPool(2, 4, 16);
        asks("the least", x, Scene.discover(1, 7), 7, offer(1, 7, 2, 16));
        Check.record("offered", x, 2, 1, 7, 8);
        Scene.ticks(x, 3);
        asks("its own, whatever is wanted", x, Scene.discover(2, 7).wanted(4), 7, offer(2, 7, 2, 16));
        Check.record("offered anew", x, 2, 1, 7, 11);
        Scene.ticks(x, 20);
        asks("another takes one without record", x, Scene.discover(1, 1), 1, offer(1, 1, 3, 16));
        asks("its own, though free", x, Scene.discover(3, 7).wanted(4), 7, offer(3, 7, 2, 16));
        Check.record("offered once more", x, 2, 1, 7, 31);
        Check.same("two records", x.count(2), 2);
        x.pool(0, 3, 4, 30);
        asks("its own is out of the pool", x, Scene.discover(4, 7), 7, offer(4, 7, 4, 30));
        x.pool(0, 2, 4, 30);
        asks("the least of two", x, Scene.discover(5, 7), 7, offer(5, 7, 2, 30));
        Check.record("the other stays", x, 4, 1, 7, 31);
    }

    private static void discoverWanted() {
        Subject x = withPool(5, 8, 16);
        asks("wanted", x, Scene.discover(1, 0).wanted(7), 0, offer(1, 0, 7, 16));
        asks("not free", x, Scene.discover(1, 1).wanted(7), 1, offer(1, 1, 5, 16));
        asks("below the pool", x, Scene.discover(1, 2).wanted(4), 2, offer(1, 2, 6, 16));
        asks("above the pool", x, Scene.discover(1, 3).wanted(9), 3, offer(1, 3, 8, 16));
        silent("none is free", x, Scene.discover(1, 4).wanted(8));
        Check.same("all are taken", x.count(4), 0);
        Scene.ticks(x, 7);
        silent("not yet free", x, Scene.discover(1, 4).wanted(8));
        x.tick();
        asks("wanted, though with a record", x, Scene.discover(1, 4).wanted(8), 4, offer(1, 4, 8, 16));
        Check.record("it is the other's now", x, 8, 1, 4, 16);
        int[] odd = {-1, 1024, 8 + 256, Integer.MIN_VALUE, Integer.MAX_VALUE};
        for (int w : odd) {
            asks("wanted " + w, x, Scene.discover(1, 9).wanted(w), 9, offer(1, 9, 5, 16));
        }
    }

    private static void discoverOldest() {
        Subject x = withPool(2, 5, 16);
        asks("4 at 0", x, Scene.discover(1, 0).wanted(4), 0, offer(1, 0, 4, 16));
        x.tick();
        asks("3 at 1", x, Scene.discover(1, 1).wanted(3), 1, offer(1, 1, 3, 16));
        asks("2 at 1", x, Scene.discover(1, 2).wanted(2), 2, offer(1, 2, 2, 16));
        Scene.ticks(x, 20);
        asks("one without record comes first", x, Scene.discover(1, 3), 3, offer(1, 3, 5, 16));
        asks("then the oldest", x, Scene.discover(1, 4), 4, offer(1, 4, 4, 16));
        asks("of several the least", x, Scene.discover(1, 5), 5, offer(1, 5, 2, 16));
        asks("and the next", x, Scene.discover(1, 6), 6, offer(1, 6, 3, 16));
        silent("and none", x, Scene.discover(1, 8));
        Check.same("four records", x.count(2), 4);
        silent("declined", x, Msg.toServer(Msg.DECLINE, 2, 4).wanted(4));
        Scene.ticks(x, 50);
        asks("a declined one is not free", x, Scene.discover(1, 8).wanted(4), 8, offer(1, 8, 2, 16));
        Scene.ticks(x, 49);
        asks("nor one tick before", x, Scene.discover(1, 9).wanted(4), 9, offer(1, 9, 3, 16));
        x.tick();
        asks("but then", x, Scene.discover(1, 10).wanted(4), 10, offer(1, 10, 4, 16));
    }

    private static void discoverLast() {
        Subject x = withPool(2, 3, 16);
        Scene.lease(x, 1, 0, 2);
        silent("released at time 0", x, Msg.toServer(Msg.RELEASE, 1, 0).ciaddr(2));
        Check.record("released at time 0", x, 2, 2, 0, 0);
        asks("the last has no record", x, Scene.discover(1, 1), 1, offer(1, 1, 3, 16));
        asks("the other is the oldest", x, Scene.discover(1, 2), 2, offer(1, 2, 2, 16));
        x.tick();
        asks("offered anew", x, Scene.discover(2, 2), 2, offer(2, 2, 2, 16));
        Scene.ticks(x, 20);
        asks("the last is the oldest", x, Scene.discover(1, 4), 4, offer(1, 4, 3, 16));
    }

    private static void discoverLeased() {
        Subject x = withPool(2, 3, 16);
        Scene.lease(x, 1, 0, 2);
        Scene.ticks(x, 15);
        asks("leased still", x, Scene.discover(2, 0), 0, offer(2, 0, 2, 16));
        Check.record("it stays leased", x, 2, 2, 0, 16);
        x.tick();
        asks("not any more", x, Scene.discover(3, 0), 0, offer(3, 0, 2, 16));
        Check.record("it is offered", x, 2, 1, 0, 24);
    }

    private static void requestOfOffer() {
        Subject x = withPool(2, 4, 16);
        asks("offer", x, Scene.discover(1, 0), 0, offer(1, 0, 2, 16));
        asks("offer to 1", x, Scene.discover(1, 1), 1, offer(1, 1, 3, 16));
        Scene.ticks(x, 5);
        asks("another's", x, Scene.request(2, 0).wanted(3).server(1), 0, nak(2, 0));
        Check.record("it is untouched", x, 3, 1, 1, 8);
        asks("one without record", x, Scene.request(2, 0).wanted(4).server(1), 0, nak(2, 0));
        asks("one out of the pool", x, Scene.request(2, 0).wanted(5).server(1), 0, nak(2, 0));
        asks("none wanted", x, Scene.request(2, 0).server(1), 0, nak(2, 0));
        asks("wanted -1", x, Scene.request(2, 0).wanted(-1).server(1), 0, nak(2, 0));
        asks("ciaddr does not count", x, Scene.request(2, 0).ciaddr(2).server(1), 0, nak(2, 0));
        asks("its own", x, Scene.request(2, 0).wanted(2).server(1), 0, ack(2, 0, 2, 16));
        Check.record("leased", x, 2, 2, 0, 21);
        Scene.ticks(x, 2);
        asks("once more", x, Scene.request(2, 0).wanted(2).server(1), 0, ack(2, 0, 2, 16));
        Check.record("leased for longer", x, 2, 2, 0, 23);
        x.tick();
        asks("an offer that is over", x, Scene.request(2, 1).wanted(3).server(1), 1, nak(2, 1));
        Check.record("it stays as it was", x, 3, 1, 1, 8);
        x.pool(0, 3, 4, 16);
        asks("its own, but of no pool", x, Scene.request(3, 0).wanted(2).server(1), 0, nak(3, 0));
        x.pool(1, 2, 4, 16);
        asks("a NAK goes by the relay", x, Scene.request(3, 0).giaddr(257).wanted(2).server(1), 13,
                nak(3, 0).giaddr(257));
    }

    private static void requestKeepsLonger() {
        Subject x = withPool(2, 4, 100);
        Scene.lease(x, 1, 0, 2);
        x.pool(0, 2, 4, 8);
        asks("a shorter lease", x, Scene.request(2, 0).wanted(2).server(1), 0, ack(2, 0, 2, 8));
        Check.record("does not cut the longer one", x, 2, 2, 0, 100);
        Scene.ticks(x, 92);
        asks("as long", x, Scene.request(3, 0).ciaddr(2), 0, ack(3, 0, 2, 8));
        Check.record("is the same", x, 2, 2, 0, 100);
        x.tick();
        asks("longer", x, Scene.request(4, 0).ciaddr(2), 0, ack(4, 0, 2, 8));
        Check.record("is longer", x, 2, 2, 0, 101);
    }

    private static void requestOfOther() {
        Subject x = withPool(2, 4, 16);
        asks("offer", x, Scene.discover(1, 0), 0, offer(1, 0, 2, 16));
        asks("offer to 1", x, Scene.discover(1, 1), 1, offer(1, 1, 3, 16));
        silent("another server", x, Scene.request(2, 0).wanted(3).server(2));
        Check.record("the offer is gone", x, 2, 0, -1, 0);
        Check.record("the other's is not", x, 3, 1, 1, 8);
        Check.same("one record", x.count(2), 1);
        silent("another server again", x, Scene.request(2, 0).wanted(3).server(-1));
        Scene.ticks(x, 9);
        silent("an offer that is over", x, Scene.request(2, 1).server(1 << 24));
        Check.same("is gone too", x.count(2), 0);
        Scene.lease(x, 3, 0, 2);
        silent("a lease", x, Scene.request(4, 0).server(257));
        Check.record("is not gone", x, 2, 2, 0, 25);
        x.pool(0, 3, 4, 16);
        asks("a second one", x, Scene.discover(5, 0), 0, offer(5, 0, 3, 16));
        x.pool(0, 2, 4, 16);
        silent("the least is leased", x, Scene.request(6, 0).server(9));
        Check.record("so the second stays", x, 3, 1, 0, 17);
        x.pool(0, 3, 4, 16);
        silent("the least of the pool", x, Scene.request(7, 0).server(9));
        Check.record("goes", x, 3, 0, -1, 0);
    }

    private static void requestWithoutServer() {
        Subject x = withPool(2, 5, 16);
        Scene.lease(x, 1, 0, 2);
        Scene.lease(x, 1, 1, 3);
        Scene.ticks(x, 4);
        asks("ciaddr", x, Scene.request(2, 0).ciaddr(2), 0, ack(2, 0, 2, 16));
        Check.record("ciaddr", x, 2, 2, 0, 20);
        x.tick();
        asks("wanted", x, Scene.request(2, 0).wanted(2), 0, ack(2, 0, 2, 16));
        Check.record("wanted", x, 2, 2, 0, 21);
        asks("a server that is 0", x, Scene.request(2, 0).wanted(2).server(0), 0, ack(2, 0, 2, 16));
        asks("ciaddr before wanted", x, Scene.request(2, 0).ciaddr(3).wanted(2), 0, nak(2, 0));
        asks("another's", x, Scene.request(2, 0).wanted(3), 0, nak(2, 0));
        silent("without a record", x, Scene.request(2, 0).wanted(4));
        Check.record("has none then", x, 4, 0, -1, 0);
        asks("not in the pool", x, Scene.request(2, 0).wanted(6), 0, nak(2, 0));
        asks("none at all", x, Scene.request(2, 0), 0, nak(2, 0));
        asks("not in the pool of its subnet", x, Scene.request(2, 0).giaddr(1).ciaddr(258), 0, nak(2, 0).giaddr(1));
        asks("offer", x, Scene.discover(2, 5), 5, offer(2, 5, 4, 16));
        asks("an offer becomes a lease", x, Scene.request(2, 5).ciaddr(4), 5, ack(2, 5, 4, 16));
        Check.record("an offer becomes a lease", x, 4, 2, 5, 21);
        x.pool(1, 2, 2, 16);
        asks("by the relay", x, Scene.request(2, 0).giaddr(257).ciaddr(2), 13, nak(2, 0).giaddr(257));
        silent("no pool of ciaddr's subnet", x, Scene.request(2, 0).ciaddr(514));
    }

    /** What is made has nothing left of what was made before it. */
    private static void exchange() {
        Subject x = new Subject();
        x.pool(1, 10, 11, 40);
        x.join(3, 1);
        x.run(2);
        Check.packet("offer", x, 0, 13, offer(1, 3, 266, 40).giaddr(257));
        x.run(2);
        Check.packet("request", x, 0, 13, Scene.request(2, 3).wanted(266).server(1).end());
        x.run(2);
        Check.packet("ack", x, 0, 13, ack(2, 3, 266, 40).giaddr(257));
        x.run(2);
        Scene.ticks(x, 20);
        Check.packet("renewal", x, 0, 16, Scene.request(3, 3).ciaddr(266).end());
        x.run(1);
        Check.packet("its ack", x, 0, 3, ack(3, 3, 266, 40));
        x.run(1);
        x.off(3);
        x.pool(1, 10, 10, 40);
        x.join(3, 0);
        Check.packet("again", x, 0, 16, Scene.request(4, 3).wanted(266).end());
        x.run(1);
        Check.same("subnet 0 has no pool", x.packets(), 0);
        x.pool(0, 2, 2, 8);
        Scene.ticks(x, 4);
        x.run(1);
        Check.packet("nak", x, 0, 3, nak(5, 3));
    }

    private static void requestExpired() {
        Subject x = withPool(2, 5, 16);
        Scene.lease(x, 1, 0, 2);
        Scene.lease(x, 1, 1, 3);
        asks("offer", x, Scene.discover(1, 2), 2, offer(1, 2, 4, 16));
        silent("declined", x, Msg.toServer(Msg.DECLINE, 2, 2).wanted(4));
        Scene.ticks(x, 200);
        asks("its own that is over", x, Scene.request(2, 0).ciaddr(2), 0, ack(2, 0, 2, 16));
        Check.record("is leased anew", x, 2, 2, 0, 216);
        asks("with the server named it is not", x, Scene.request(2, 1).wanted(3).server(1), 1, nak(2, 1));
        asks("another's that is over", x, Scene.request(3, 0).ciaddr(3), 0, nak(3, 0));
        asks("one that was declined", x, Scene.request(3, 2).wanted(4), 2, nak(3, 2));
    }

    private static void decline() {
        Subject x = withPool(2, 5, 16);
        Scene.lease(x, 1, 0, 2);
        asks("offer", x, Scene.discover(1, 1), 1, offer(1, 1, 3, 16));
        x.tick();
        silent("another's", x, Msg.toServer(Msg.DECLINE, 2, 1).wanted(2));
        Check.record("another's", x, 2, 2, 0, 16);
        silent("ciaddr does not count", x, Msg.toServer(Msg.DECLINE, 2, 0).ciaddr(2));
        Check.record("ciaddr does not count", x, 2, 2, 0, 16);
        silent("a lease", x, Msg.toServer(Msg.DECLINE, 2, 0).wanted(2));
        Check.record("a lease", x, 2, 3, -1, 101);
        silent("an offer", x, Msg.toServer(Msg.DECLINE, 2, 1).wanted(3));
        Check.record("an offer", x, 3, 3, -1, 101);
        x.tick();
        silent("it is nobody's then", x, Msg.toServer(Msg.DECLINE, 3, 0).wanted(2));
        Check.record("it is nobody's then", x, 2, 3, -1, 101);
        int[] odd = {0, 4, -1, 1024, Integer.MIN_VALUE, Integer.MAX_VALUE};
        for (int w : odd) {
            silent("wanted " + w, x, Msg.toServer(Msg.DECLINE, 3, 0).wanted(w));
        }
        Check.same("two records", x.count(2), 2);
        Check.same("two are free", x.count(4), 2);
        Scene.lease(x, 4, 0, 5);
        x.pool(0, 2, 3, 16);
        Scene.ticks(x, 30);
        silent("out of the pool, and over", x, Msg.toServer(Msg.DECLINE, 5, 0).wanted(5));
        Check.record("out of the pool, and over", x, 5, 3, -1, 132);
    }

    private static void release() {
        Subject x = withPool(2, 5, 16);
        Scene.lease(x, 1, 0, 2);
        asks("offer", x, Scene.discover(1, 1), 1, offer(1, 1, 3, 16));
        Scene.ticks(x, 3);
        silent("an offer", x, Msg.toServer(Msg.RELEASE, 1, 1).ciaddr(3));
        Check.record("an offer", x, 3, 1, 1, 8);
        silent("another's", x, Msg.toServer(Msg.RELEASE, 1, 1).ciaddr(2));
        silent("wanted does not count", x, Msg.toServer(Msg.RELEASE, 1, 0).wanted(2));
        silent("out of range", x, Msg.toServer(Msg.RELEASE, 1, 0).giaddr(1).ciaddr(-1));
        silent("without record", x, Msg.toServer(Msg.RELEASE, 1, 0).ciaddr(4));
        Check.record("leased still", x, 2, 2, 0, 16);
        Check.same("free", x.count(4), 2);
        silent("a lease", x, Msg.toServer(Msg.RELEASE, 1, 0).ciaddr(2));
        Check.record("a lease", x, 2, 2, 0, 3);
        Check.same("it is free", x.count(4), 3);
        asks("it is not to be had with the server", x, Scene.request(1, 0).wanted(2).server(1), 0, nak(1, 0));
        Scene.ticks(x, 2);
        silent("once more", x, Msg.toServer(Msg.RELEASE, 1, 0).ciaddr(2));
        Check.record("once more", x, 2, 2, 0, 5);
    }

    private static void otherTypes() {
        Subject x = withPool(2, 5, 16);
        Scene.lease(x, 1, 0, 2);
        String before = Look.all(x);
        int[] others = {0, 2, 5, 6, 8, 128, 255};
        for (int type : others) {
            silent("type " + type, x, Msg.toServer(type, 1, 0).ciaddr(2).wanted(2).server(1));
        }
        silent("no type", x, Msg.head(1, 1, 0).ciaddr(2).wanted(2));
        Check.same("nothing changed", Look.all(x).equals(before), true);
    }

    private static void recordRefuses() {
        Subject x = withPool(2, 5, 16);
        int[] bad = {0, -1, 1024, Integer.MIN_VALUE, Integer.MAX_VALUE};
        for (int a : bad) {
            Check.fails("record " + a, x, IndexOutOfBoundsException.class, () -> x.record(a, 0));
        }
        int[] odd = {-1, 3, Integer.MIN_VALUE, Integer.MAX_VALUE};
        for (int w : odd) {
            Check.fails("record what " + w, x, IndexOutOfBoundsException.class, () -> x.record(2, w));
        }
        Check.record("the last", x, 1023, 0, -1, 0);
        Check.record("the first", x, 1, 0, -1, 0);
    }
}
