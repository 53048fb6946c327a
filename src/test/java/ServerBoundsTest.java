/** What the document's Terms say of the server, at its bounds, each sentence by itself. */
public final class ServerBoundsTest {
    private static final int MIN = Integer.MIN_VALUE;
    private static final int MAX = Integer.MAX_VALUE;
    private static final int OFFERED = 1;
    private static final int LEASED = 2;
    private static final int DECLINED = 3;
    /** Round each bound of a subnet, and far away. */
    private static final int[] NUMBERS = {1, 127, 128, 255, 256, 257, 511, 512, 513, 767, 768, 769, 1022, 1023, 1024,
        1025, 65535, 65536, 1 << 24, MAX, MAX - 255, -1, -255, -256, -257, MIN, MIN + 255, MIN + 256};

    public static void main(String[] args) {
        notLookedAtWhileDown();
        subnetOfGiaddr();
        subnetOfCiaddr();
        giaddrBeforeCiaddr();
        noSuchClient();
        noPoolOfIt();
        xidLessThanTheLast();
        xidsThatWereNotLookedAt();
        xidsThatWereLookedAt();
        whereItAnswers();
        anOfferIsFreeAtItsTime();
        aLeaseIsFreeAtItsTime();
        aDeclinedOneIsFreeAtItsTime();
        aReleasedOneIsFreeAtOnce();
        poolsAtTheirBounds();
        wantedAtThePoolsBounds();
        leastWithARecordOfThisClient();
        leastWithoutARecord();
        leastWithoutARecordAtTheEnd();
        leastTime();
        aFullPool();
        leasedUntilLaterThanNow();
        requestUntilLaterThanNow();
        requestAtThePoolsBounds();
        asLongAsItWasLeased();
        anotherServer();
        anotherServerAndTheLeast();
        withoutAServer();
        withoutAServerCiaddrOrWanted();
        declineOfAnyNumber();
        releaseOfAnyNumber();
        othersNothing();
        Check.end();
    }

    private static Subject withPool(int low, int high, int lease) {
        Subject x = new Subject();
        x.pool(0, low, high, lease);
        return x;
    }

    private static Msg offer(int xid, int client, int address, int lease) {
        return Msg.toClient(Msg.OFFER, xid, client).yiaddr(address).lease(lease).server(1).end();
    }

    private static Msg ack(int xid, int client, int address, int lease) {
        return Msg.toClient(Msg.ACK, xid, client).yiaddr(address).lease(lease).server(1).end();
    }

    private static Msg nak(int xid, int client) {
        return Msg.toClient(Msg.NAK, xid, client).server(1).end();
    }

    private static Msg decline(int xid, int client, int address) {
        return Msg.toServer(Msg.DECLINE, xid, client).wanted(address);
    }

    private static Msg release(int xid, int client, int address) {
        return Msg.toServer(Msg.RELEASE, xid, client).ciaddr(address);
    }

    /** The message comes to the server, whose one answer is this one (null: none). */
    private static void asks(String when, Subject x, Msg asked, int place, Msg answer) {
        int before = x.packets();
        asked.end().bring(x, 16);
        Check.same(when + ": answers", x.packets() - before, answer == null ? 0 : 1);
        if (answer != null && x.packets() > before) {
            Check.packet(when, x, before, place, answer);
        }
        while (x.packets() > before) {
            x.drop(before);
        }
    }

    private static void silent(String when, Subject x, Msg asked) {
        asks(when, x, asked, 0, null);
    }

    /** Nothing is answered, and nothing that can be asked is another then. */
    private static void unmoved(String when, Subject x, Msg asked) {
        String before = Look.all(x);
        asked.end().bring(x, 16);
        Check.same(when + " changes nothing", Look.all(x).equals(before), true);
    }

    private static void notLookedAtWhileDown() {
        Subject x = withPool(2, 9, 16);
        Scene.lease(x, 5, 0, 2);
        x.down(true);
        unmoved("DISCOVER", x, Scene.discover(6, 1));
        unmoved("REQUEST", x, Scene.request(6, 0).wanted(9).server(1));
        unmoved("REQUEST without server", x, Scene.request(6, 0).ciaddr(2));
        unmoved("DECLINE", x, decline(6, 0, 2));
        unmoved("RELEASE", x, release(6, 0, 2));
        Scene.ticks(x, 16);
        Check.record("it forgets nothing", x, 2, LEASED, 0, 16);
        Check.same("its pool stays", x.count(4), 8);
        x.pool(0, 2, 3, 16);
        Check.same("and is set anew", x.count(4), 2);
        x.down(false);
        Check.record("it forgot nothing", x, 2, LEASED, 0, 16);
        silent("nor the last xid", x, Scene.discover(4, 0));
        asks("which is not of what came while it was down", x, Scene.discover(5, 0), 0, offer(5, 0, 2, 16));
    }

    /** A pool of each subnet, whose lease tells which it was. */
    private static Subject withFourPools() {
        Subject x = new Subject();
        for (int s = 0; s < 4; s++) {
            x.pool(s, 10, 20, 100 + s);
        }
        return x;
    }

    private static int subnetOf(int number) {
        return number >= 0 && number < 1024 ? number / 256 : -1;
    }

    private static void subnetOfGiaddr() {
        for (int n : NUMBERS) {
            int s = subnetOf(n);
            Subject x = withFourPools();
            Msg want = s < 0 ? null : offer(1, 3, 256 * s + 10, 100 + s).giaddr(n);
            asks("giaddr " + n, x, Scene.discover(1, 3).giaddr(n), s == 0 ? 3 : 12 + s, want);
            Check.same("giaddr " + n + ": records", x.count(2), s < 0 ? 0 : 1);
        }
    }

    private static void subnetOfCiaddr() {
        for (int n : NUMBERS) {
            int s = subnetOf(n);
            Subject x = withFourPools();
            Msg want = s < 0 ? null : offer(1, 3, 256 * s + 10, 100 + s);
            asks("ciaddr " + n, x, Scene.discover(1, 3).ciaddr(n), 3, want);
        }
        asks("both 0", withFourPools(), Scene.discover(1, 3), 3, offer(1, 3, 10, 100));
    }

    private static void giaddrBeforeCiaddr() {
        for (int g : NUMBERS) {
            int[] others = {0, 1, 256, 1023, 1024, -1, MIN, MAX};
            for (int c : others) {
                int s = subnetOf(g);
                Msg want = s < 0 ? null : offer(1, 3, 256 * s + 10, 100 + s).giaddr(g);
                asks("giaddr " + g + ", ciaddr " + c, withFourPools(), Scene.discover(1, 3).giaddr(g).ciaddr(c),
                        s == 0 ? 3 : 12 + s, want);
            }
        }
    }

    private static void noSuchClient() {
        for (int c = 0; c < 256; c++) {
            Subject x = withPool(2, 9, 16);
            asks("client " + c, x, Scene.discover(1, c), c, c < 12 ? offer(1, c, 2, 16) : null);
            Check.same("records of client " + c, x.count(2), c < 12 ? 1 : 0);
        }
    }

    private static void noPoolOfIt() {
        for (int with = 0; with < 4; with++) {
            for (int s = 0; s < 4; s++) {
                Subject x = new Subject();
                x.pool(with, 2, 2, 8);
                int g = 256 * s + 1;
                asks("pool of " + with + ", giaddr of " + s, x, Scene.discover(1, 3).giaddr(g), s == 0 ? 3 : 12 + s,
                        s == with ? offer(1, 3, 256 * s + 2, 8).giaddr(g) : null);
                if (s != with) {
                    silent("no NAK either", x, Scene.request(1, 3).giaddr(g).wanted(2).server(1));
                    silent("nor without server", x, Scene.request(1, 3).giaddr(g).ciaddr(2));
                }
            }
        }
    }

    private static void xidLessThanTheLast() {
        int[] xids = {MIN, MIN + 1, -256, -129, -128, -2, -1, 0, 1, 127, 128, 255, 256, 65535, 1 << 24, MAX - 1, MAX};
        for (int last : xids) {
            for (int next : xids) {
                Subject x = withPool(2, 9, 16);
                asks("any at first: " + last, x, Scene.discover(last, 3), 3, offer(last, 3, 2, 16));
                asks(next + " behind " + last, x, Scene.discover(next, 3), 3,
                        next < last ? null : offer(next, 3, 2, 16));
                asks("another client's " + next, x, Scene.discover(next, 4), 4, offer(next, 4, 3, 16));
                asks("the greater one was the last", x, Scene.discover(Math.max(last, next), 3), 3,
                        offer(Math.max(last, next), 3, 2, 16));
            }
        }
        for (int last : xids) {
            if (last != MIN) {
                Subject x = withPool(2, 9, 16);
                Scene.lease(x, last, 3, 2);
                unmoved("an old DISCOVER", x, Scene.discover(last - 1, 3));
                unmoved("an old REQUEST", x, Scene.request(last - 1, 3).wanted(9).server(1));
                unmoved("an old REQUEST of another server", x, Scene.request(last - 1, 3).server(2));
                unmoved("an old REQUEST without server", x, Scene.request(last - 1, 3).wanted(10));
                unmoved("an old DECLINE", x, decline(last - 1, 3, 2));
                unmoved("an old RELEASE", x, release(last - 1, 3, 2));
            }
        }
    }

    /** What is not looked at does not become the last one. */
    private static void xidsThatWereNotLookedAt() {
        Subject x = withPool(2, 9, 16);
        silent("op 2", x, Msg.toClient(Msg.DISCOVER, 50, 3));
        silent("no pool", x, Scene.discover(50, 3).giaddr(257));
        silent("no subnet", x, Scene.discover(50, 3).giaddr(1024));
        silent("no subnet of ciaddr", x, Scene.request(50, 3).ciaddr(-1));
        Scene.discover(50, 3).bring(x, 16);
        x.down(true);
        silent("down", x, Scene.discover(50, 3));
        x.down(false);
        Scene.discover(50, 3).end().inject(x, 13);
        Scene.discover(50, 3).end().inject(x, 3);
        x.carry(1);
        silent("another's", x, Scene.discover(50, 12 + 3));
        x.drop(0);
        asks("so the first may be any", x, Scene.discover(MIN, 3), 3, offer(MIN, 3, 2, 16));
        silent("and then", x, Scene.discover(60, 3).giaddr(257));
        asks("it is not greater", x, Scene.discover(MIN, 3), 3, offer(MIN, 3, 2, 16));
        asks("greater", x, Scene.discover(7, 3), 3, offer(7, 3, 2, 16));
        silent("less", x, Scene.discover(6, 3));
        asks("one that was less is not the last", x, Scene.discover(7, 3), 3, offer(7, 3, 2, 16));
        silent("so this is still less", x, Scene.discover(6, 3));
    }

    private static void xidsThatWereLookedAt() {
        for (int type = 0; type < 256; type++) {
            Subject x = withPool(2, 2, 16);
            Scene.lease(x, 1, 0, 2);
            Msg.toServer(type, 9, 3).end().bring(x, 16);
            Scene.clear(x);
            unmoved("less than that of type " + type, x, Scene.request(8, 3).wanted(7).server(1));
            asks("as great", x, Scene.request(9, 3).wanted(7).server(1), 3, nak(9, 3));
        }
        Subject x = withPool(2, 9, 16);
        Msg.head(1, 9, 3).end().bring(x, 16);
        unmoved("less than that of no type", x, Scene.discover(8, 3));
    }

    private static void whereItAnswers() {
        int[] giaddrs = {0, 1, 127, 128, 255, 256, 257, 511, 512, 767, 768, 1023};
        for (int g : giaddrs) {
            int place = g < 256 ? 5 : 12 + g / 256;
            Subject x = withFourPools();
            int first = 256 * (g / 256) + 10;
            int lease = 100 + g / 256;
            asks("OFFER, giaddr " + g, x, Scene.discover(1, 5).giaddr(g), place, offer(1, 5, first, lease).giaddr(g));
            asks("ACK, giaddr " + g, x, Scene.request(1, 5).giaddr(g).wanted(first).server(1), place,
                    ack(1, 5, first, lease).giaddr(g));
            asks("NAK, giaddr " + g, x, Scene.request(1, 5).giaddr(g).server(1), place, nak(1, 5).giaddr(g));
        }
        Subject x = withFourPools();
        Scene.lease(x, 1, 5, 266);
        asks("ciaddr of subnet 1 alone", x, Scene.request(1, 5).ciaddr(266), 5, ack(1, 5, 266, 101));
    }

    private static void anOfferIsFreeAtItsTime() {
        Subject x = withPool(2, 2, 16);
        Scene.ticks(x, 3);
        asks("offered at 3", x, Scene.discover(1, 0), 0, offer(1, 0, 2, 16));
        Check.record("until 11", x, 2, OFFERED, 0, 11);
        Check.same("not free", x.count(4), 0);
        Scene.ticks(x, 7);
        Check.same("not free at 10", x.count(4), 0);
        silent("not at 10", x, Scene.discover(1, 1));
        silent("not at 10, though wanted", x, Scene.discover(1, 1).wanted(2));
        x.tick();
        Check.same("free at 11", x.count(4), 1);
        Check.record("the record is as it was", x, 2, OFFERED, 0, 11);
        asks("to another at 11", x, Scene.discover(1, 1), 1, offer(1, 1, 2, 16));
        Check.record("until 19", x, 2, OFFERED, 1, 19);
        Check.same("one record", x.count(2), 1);
    }

    private static void aLeaseIsFreeAtItsTime() {
        Subject x = withPool(2, 2, 8);
        Scene.lease(x, 1, 0, 2);
        Check.record("until 8", x, 2, LEASED, 0, 8);
        Scene.ticks(x, 7);
        Check.same("not free at 7", x.count(4), 0);
        silent("not at 7", x, Scene.discover(1, 1));
        silent("not at 7, though wanted", x, Scene.discover(1, 1).wanted(2));
        x.tick();
        Check.same("free at 8", x.count(4), 1);
        asks("to another at 8", x, Scene.discover(1, 1).wanted(2), 1, offer(1, 1, 2, 8));
        Check.record("until 16", x, 2, OFFERED, 1, 16);
    }

    private static void aDeclinedOneIsFreeAtItsTime() {
        Subject x = withPool(2, 2, 8);
        Scene.lease(x, 1, 0, 2);
        x.tick();
        silent("declined at 1", x, decline(1, 0, 2));
        Check.record("until 101", x, 2, DECLINED, -1, 101);
        Scene.ticks(x, 99);
        Check.same("not free at 100", x.count(4), 0);
        silent("not at 100", x, Scene.discover(1, 0).wanted(2));
        asks("no client's", x, Scene.request(1, 0).wanted(2).server(1), 0, nak(1, 0));
        x.tick();
        Check.same("free at 101", x.count(4), 1);
        asks("still no client's", x, Scene.request(1, 0).wanted(2).server(1), 0, nak(1, 0));
        asks("without server too", x, Scene.request(1, 0).wanted(2), 0, nak(1, 0));
        silent("nor is it taken away", x, Scene.request(1, 0).server(2));
        Check.record("until 101 still", x, 2, DECLINED, -1, 101);
        asks("offered at 101", x, Scene.discover(1, 0), 0, offer(1, 0, 2, 8));
        Check.record("until 109", x, 2, OFFERED, 0, 109);
    }

    private static void aReleasedOneIsFreeAtOnce() {
        Subject x = withPool(2, 2, 8);
        Scene.lease(x, 1, 0, 2);
        Scene.ticks(x, 3);
        Check.same("not free", x.count(4), 0);
        silent("released", x, release(1, 0, 2));
        Check.record("its time becomes now", x, 2, LEASED, 0, 3);
        Check.same("free", x.count(4), 1);
        Check.same("with a record still", x.count(2), 1);
        asks("to another", x, Scene.discover(1, 1), 1, offer(1, 1, 2, 8));
    }

    /** The smallest and the largest pools of each subnet: their first and last addresses, and no other. */
    private static void poolsAtTheirBounds() {
        int[][] pools = {{2, 2}, {2, 3}, {250, 250}, {249, 250}, {2, 250}, {127, 128}};
        for (int s = 0; s < 4; s++) {
            for (int[] p : pools) {
                Subject x = new Subject();
                x.pool(s, p[0], p[1], 8);
                Check.same("free", x.count(4), p[1] - p[0] + 1);
                int g = 256 * s + 1;
                for (int host = p[0] - 1; host <= p[1] + 1; host++) {
                    boolean isEdge = host <= p[0] || host >= p[1];
                    boolean isIn = host >= p[0] && host <= p[1];
                    if (isEdge) {
                        Check.same("no record yet", x.count(2), 0);
                        asks("host " + host + " of " + p[0] + " .. " + p[1], x,
                                Scene.request(1, 3).giaddr(g).wanted(256 * s + host), s == 0 ? 3 : 12 + s,
                                isIn ? null : nak(1, 3).giaddr(g));
                    }
                }
                asks("the first", x, Scene.discover(1, 3).giaddr(g), s == 0 ? 3 : 12 + s,
                        offer(1, 3, 256 * s + p[0], 8).giaddr(g));
                asks("the last", x, Scene.discover(1, 4).giaddr(g).wanted(256 * s + p[1]), s == 0 ? 4 : 12 + s,
                        p[0] == p[1] ? null : offer(1, 4, 256 * s + p[1], 8).giaddr(g));
            }
        }
    }

    private static void wantedAtThePoolsBounds() {
        int[] numbers = {MIN, -1, 0, 1, 4, 5, 6, 7, 8, 9, 255, 256 + 5, 1023, 1024, MAX};
        for (int n : numbers) {
            Subject x = withPool(5, 8, 16);
            int want = n >= 5 && n <= 8 ? n : 5;
            asks("wanted " + n, x, Scene.discover(1, 3).wanted(n), 3, offer(1, 3, want, 16));
            Check.record("wanted " + n, x, want, OFFERED, 3, 8);
            Check.same("one record", x.count(2), 1);
        }
        Subject far = new Subject();
        far.pool(3, 5, 8, 16);
        int[] hosts = {4, 5, 8, 9};
        for (int h : hosts) {
            asks("host " + h, far, Scene.discover(1, h).giaddr(769).wanted(768 + h), 15,
                    offer(1, h, 768 + (h == 4 ? 5 : h == 5 ? 6 : h == 8 ? 8 : 7), 16).giaddr(769));
        }
    }

    private static void leastWithARecordOfThisClient() {
        Subject x = withPool(6, 6, 16);
        asks("6", x, Scene.discover(1, 3), 3, offer(1, 3, 6, 16));
        x.pool(0, 4, 5, 16);
        asks("4", x, Scene.discover(1, 3), 3, offer(1, 3, 4, 16));
        x.pool(0, 4, 6, 16);
        asks("4 of 4 and 6", x, Scene.discover(1, 3).wanted(5), 3, offer(1, 3, 4, 16));
        x.pool(0, 5, 6, 16);
        asks("6, the last of the pool", x, Scene.discover(1, 3).wanted(5), 3, offer(1, 3, 6, 16));
        x.pool(0, 2, 4, 16);
        asks("4, the last of the pool", x, Scene.discover(1, 3).wanted(2), 3, offer(1, 3, 4, 16));
        x.pool(0, 4, 9, 16);
        asks("4, the first of the pool", x, Scene.discover(1, 3).wanted(9), 3, offer(1, 3, 4, 16));
        x.pool(0, 7, 9, 16);
        asks("none of them", x, Scene.discover(1, 3).wanted(9), 3, offer(1, 3, 9, 16));
        Subject y = withPool(2, 3, 16);
        Scene.lease(y, 1, 0, 3);
        Scene.ticks(y, 30);
        asks("its own, over for long, before one without record", y, Scene.discover(2, 0), 0, offer(2, 0, 3, 16));
        Check.record("offered", y, 3, OFFERED, 0, 38);
        Subject z = withPool(2, 3, 16);
        Scene.lease(z, 1, 0, 3);
        silent("released at 0", z, release(1, 0, 3));
        Check.record("a record of time 0", z, 3, LEASED, 0, 0);
        asks("is one too", z, Scene.discover(2, 0).wanted(2), 0, offer(2, 0, 3, 16));
    }

    private static void leastWithoutARecord() {
        Subject x = withPool(2, 4, 16);
        asks("2 is wanted", x, Scene.discover(1, 0).wanted(2), 0, offer(1, 0, 2, 16));
        Scene.ticks(x, 8);
        Check.same("all are free", x.count(4), 3);
        asks("3, for it has none", x, Scene.discover(1, 1), 1, offer(1, 1, 3, 16));
        Scene.ticks(x, 8);
        asks("4, the last without", x, Scene.discover(1, 2), 2, offer(1, 2, 4, 16));
        asks("then that of the least time", x, Scene.discover(1, 3), 3, offer(1, 3, 2, 16));
    }

    /** A time of 0 is no less than having no record. */
    private static void leastWithoutARecordAtTheEnd() {
        Subject x = withPool(2, 3, 16);
        Scene.lease(x, 1, 0, 2);
        silent("released at 0", x, release(1, 0, 2));
        asks("3, the last, for it has none", x, Scene.discover(1, 1), 1, offer(1, 1, 3, 16));
        asks("then 2, of time 0", x, Scene.discover(1, 2), 2, offer(1, 2, 2, 16));
    }

    private static void leastTime() {
        Subject x = withPool(2, 4, 16);
        asks("4 until 8", x, Scene.discover(1, 0).wanted(4), 0, offer(1, 0, 4, 16));
        x.tick();
        asks("2 until 9", x, Scene.discover(1, 1).wanted(2), 1, offer(1, 1, 2, 16));
        asks("3 until 9", x, Scene.discover(1, 2).wanted(3), 2, offer(1, 2, 3, 16));
        Scene.ticks(x, 7);
        offersTwice("only 4 is free at 8", x, 5, 4);
        x.tick();
        offersTwice("of 2 and 3 the least at 9", x, 6, 2);
        offersTwice("then 3", x, 7, 3);
        silent("none is free", x, Scene.discover(1, 8));
    }

    /** The offer is made, and stays when it is asked for again. */
    private static void offersTwice(String when, Subject x, int client, int address) {
        asks(when, x, Scene.discover(1, client), client, offer(1, client, address, 16));
        asks(when + " again", x, Scene.discover(1, client), client, offer(1, client, address, 16));
    }

    private static void aFullPool() {
        Subject x = withPool(2, 12, 16);
        for (int c = 0; c < 11; c++) {
            Check.same("free before " + c, x.count(4), 11 - c);
            Check.same("records before " + c, x.count(2), c);
            asks("client " + c, x, Scene.discover(1, c), c, offer(1, c, 2 + c, 16));
        }
        Check.same("none is free", x.count(4), 0);
        String before = Look.all(x);
        silent("the twelfth", x, Scene.discover(1, 11));
        silent("the twelfth, with one wanted", x, Scene.discover(1, 11).wanted(12));
        Check.same("nothing changed", Look.all(x).equals(before), true);
        asks("who has one gets it", x, Scene.discover(1, 10), 10, offer(1, 10, 12, 16));
        x.pool(0, 2, 13, 16);
        Check.same("one more", x.count(4), 1);
        asks("for the twelfth", x, Scene.discover(1, 11), 11, offer(1, 11, 13, 16));
        Check.same("full again", x.count(4), 0);
        x.pool(0, 13, 13, 16);
        silent("a full pool of one", x, Scene.discover(2, 0));
        x.pool(0, 14, 14, 16);
        Check.same("a pool of one that is empty", x.count(4), 1);
        asks("its one", x, Scene.discover(2, 0), 0, offer(2, 0, 14, 16));
    }

    private static void leasedUntilLaterThanNow() {
        for (int time = 7; time <= 9; time++) {
            Subject x = withPool(2, 2, 8);
            Scene.lease(x, 1, 0, 2);
            Scene.ticks(x, time);
            asks("at " + time, x, Scene.discover(2, 0), 0, offer(2, 0, 2, 8));
            Check.record("at " + time, x, 2, time < 8 ? LEASED : OFFERED, 0, time < 8 ? 8 : time + 8);
        }
        Subject y = withPool(2, 2, 8);
        asks("offered", y, Scene.discover(1, 0), 0, offer(1, 0, 2, 8));
        Scene.ticks(y, 7);
        asks("offered anew before its time", y, Scene.discover(2, 0), 0, offer(2, 0, 2, 8));
        Check.record("offered anew before its time", y, 2, OFFERED, 0, 15);
        Subject z = withPool(2, 2, 8);
        Scene.lease(z, 1, 0, 2);
        silent("released", z, release(1, 0, 2));
        asks("then offered", z, Scene.discover(2, 0), 0, offer(2, 0, 2, 8));
        Check.record("then offered", z, 2, OFFERED, 0, 8);
    }

    private static void requestUntilLaterThanNow() {
        for (int time = 6; time <= 9; time++) {
            Subject x = withPool(2, 2, 20);
            asks("offered", x, Scene.discover(1, 0), 0, offer(1, 0, 2, 20));
            Scene.ticks(x, time);
            asks("an offer at " + time, x, Scene.request(2, 0).wanted(2).server(1), 0,
                    time < 8 ? ack(2, 0, 2, 20) : nak(2, 0));
            Check.record("an offer at " + time, x, 2, time < 8 ? LEASED : OFFERED, 0, time < 8 ? time + 20 : 8);
            Subject y = withPool(2, 2, 8);
            Scene.lease(y, 1, 0, 2);
            Scene.ticks(y, time);
            asks("a lease at " + time, y, Scene.request(2, 0).wanted(2).server(1), 0,
                    time < 8 ? ack(2, 0, 2, 8) : nak(2, 0));
            Check.record("a lease at " + time, y, 2, LEASED, 0, time < 8 ? time + 8 : 8);
        }
    }

    /** All of these have a record of this client, but the pool is another then. */
    private static void requestAtThePoolsBounds() {
        int[][] pools = {{2, 4}, {5, 5}, {2, 5}, {5, 9}, {6, 9}, {2, 250}};
        for (int[] p : pools) {
            boolean isIn = p[0] <= 5 && 5 <= p[1];
            Subject x = withPool(5, 5, 16);
            Scene.lease(x, 1, 0, 5);
            x.tick();
            x.pool(0, p[0], p[1], 16);
            String when = p[0] + " .. " + p[1];
            asks("with server, " + when, x, Scene.request(2, 0).wanted(5).server(1), 0,
                    isIn ? ack(2, 0, 5, 16) : nak(2, 0));
            asks("with ciaddr, " + when, x, Scene.request(2, 0).ciaddr(5), 0, isIn ? ack(2, 0, 5, 16) : nak(2, 0));
            asks("with wanted, " + when, x, Scene.request(2, 0).wanted(5), 0, isIn ? ack(2, 0, 5, 16) : nak(2, 0));
            Check.record(when, x, 5, LEASED, 0, isIn ? 17 : 16);
        }
        int[] numbers = {MIN, -1, 0, 1, 4, 6, 255, 256 + 5, 1023, 1024, MAX};
        for (int n : numbers) {
            Subject x = withPool(5, 5, 16);
            Scene.lease(x, 1, 0, 5);
            asks("wanted " + n, x, Scene.request(2, 0).wanted(n).server(1), 0, nak(2, 0));
            Check.record("wanted " + n, x, 5, LEASED, 0, 16);
        }
    }

    /** Leased until 50; at each of these times the new lease ends before, at, or behind that. */
    private static void asLongAsItWasLeased() {
        for (int time = 29; time <= 31; time++) {
            for (int way = 0; way < 3; way++) {
                Subject x = withPool(2, 2, 50);
                Scene.lease(x, 1, 0, 2);
                x.pool(0, 2, 2, 20);
                Scene.ticks(x, time);
                Msg m = Scene.request(2, 0);
                asks("way " + way, x, way == 0 ? m.wanted(2).server(1) : way == 1 ? m.wanted(2) : m.ciaddr(2), 0,
                        ack(2, 0, 2, 20));
                Check.record("asked at " + time, x, 2, LEASED, 0, Math.max(50, time + 20));
            }
        }
        Subject x = withPool(2, 2, 10000);
        Scene.lease(x, 1, 0, 2);
        Check.record("the longest", x, 2, LEASED, 0, 10000);
        x.tick();
        asks("the longest again", x, Scene.request(2, 0).ciaddr(2), 0, ack(2, 0, 2, 10000));
        Check.record("the longest again", x, 2, LEASED, 0, 10001);
    }

    private static void anotherServer() {
        int[] servers = {MIN, -1, 0, 1, 2, 127, 128, 255, 256, 257, 513, 769, 1 << 24, MAX};
        for (int s : servers) {
            Subject x = withPool(2, 2, 16);
            asks("offered", x, Scene.discover(1, 0), 0, offer(1, 0, 2, 16));
            boolean isOther = s != 0 && s != 1;
            asks("server " + s, x, Scene.request(2, 0).wanted(2).server(s), 0, isOther ? null : ack(2, 0, 2, 16));
            Check.record("server " + s, x, 2, isOther ? 0 : LEASED, isOther ? -1 : 0, isOther ? 0 : 16);
            Check.same("records", x.count(2), isOther ? 0 : 1);
            Check.same("free", x.count(4), isOther ? 1 : 0);
        }
    }

    private static void anotherServerAndTheLeast() {
        Subject none = withPool(2, 4, 16);
        unmoved("none of this client", none, Scene.request(1, 0).wanted(2).server(2));
        Scene.lease(none, 1, 1, 2);
        unmoved("one of another", none, Scene.request(1, 0).wanted(2).server(2));
        unmoved("a leased one", none, Scene.request(1, 1).wanted(2).server(2));
        int[][] pools = {{2, 4}, {5, 5}, {2, 5}, {5, 9}, {6, 9}};
        for (int[] p : pools) {
            boolean isIn = p[0] <= 5 && 5 <= p[1];
            Subject x = withPool(5, 5, 16);
            asks("offered", x, Scene.discover(1, 0), 0, offer(1, 0, 5, 16));
            x.pool(0, p[0], p[1], 16);
            silent("another server", x, Scene.request(1, 0).server(2));
            Check.same(p[0] + " .. " + p[1], x.count(2), isIn ? 0 : 1);
        }
        Subject two = withPool(6, 6, 16);
        asks("6", two, Scene.discover(1, 0), 0, offer(1, 0, 6, 16));
        two.pool(0, 4, 4, 16);
        asks("4", two, Scene.discover(1, 0), 0, offer(1, 0, 4, 16));
        two.pool(0, 4, 6, 16);
        silent("the least of two offers", two, Scene.request(1, 0).wanted(6).server(2));
        Check.record("4 is gone", two, 4, 0, -1, 0);
        Check.record("6 is not", two, 6, OFFERED, 0, 8);
        for (int time = 7; time <= 9; time++) {
            Subject x = withPool(2, 4, 16);
            asks("offered", x, Scene.discover(1, 0), 0, offer(1, 0, 2, 16));
            Scene.ticks(x, time);
            silent("before, at and behind its time", x, Scene.request(1, 0).server(2));
            Check.same("it is gone at " + time, x.count(2), 0);
        }
    }

    private static void withoutAServer() {
        for (int time = 7; time <= 9; time++) {
            Subject x = withPool(2, 5, 8);
            Scene.lease(x, 1, 0, 2);
            Scene.lease(x, 1, 1, 3);
            asks("offered", x, Scene.discover(1, 2), 2, offer(1, 2, 4, 8));
            Scene.ticks(x, time);
            asks("its lease at " + time, x, Scene.request(2, 0).ciaddr(2), 0, ack(2, 0, 2, 8));
            Check.record("its lease at " + time, x, 2, LEASED, 0, time + 8);
            asks("its offer at " + time, x, Scene.request(2, 2).wanted(4), 2, ack(2, 2, 4, 8));
            Check.record("its offer at " + time, x, 4, LEASED, 2, time + 8);
            asks("another's at " + time, x, Scene.request(3, 0).ciaddr(3), 0, nak(3, 0));
            Check.record("another's at " + time, x, 3, LEASED, 1, 8);
            unmoved("without a record", x, Scene.request(3, 0).ciaddr(5));
            asks("below the pool", x, Scene.request(3, 0).ciaddr(1), 0, nak(3, 0));
            asks("above the pool", x, Scene.request(3, 0).ciaddr(6), 0, nak(3, 0));
        }
    }

    private static void withoutAServerCiaddrOrWanted() {
        int[] numbers = {MIN, -1, 1, 2, 3, 4, 5, 6, 255, 1023, 1024, MAX};
        for (int n : numbers) {
            Subject x = withPool(2, 5, 8);
            Scene.lease(x, 1, 0, 2);
            Scene.lease(x, 1, 1, 3);
            Msg want = n == 2 ? ack(2, 0, 2, 8) : n == 4 || n == 5 ? null : nak(2, 0);
            asks("wanted " + n, x, Scene.request(2, 0).wanted(n), 0, want);
            asks("wanted " + n + " and ciaddr 2", x, Scene.request(2, 0).wanted(n).ciaddr(2), 0, ack(2, 0, 2, 8));
            Subject y = withPool(2, 5, 8);
            Scene.lease(y, 1, 0, 2);
            Scene.lease(y, 1, 1, 3);
            Msg by = n == 2 ? ack(2, 0, 2, 8).giaddr(9) : n == 4 || n == 5 ? null : nak(2, 0).giaddr(9);
            asks("ciaddr " + n + " and wanted 2", y, Scene.request(2, 0).giaddr(9).ciaddr(n).wanted(2), 0, by);
        }
        asks("neither", withPool(2, 5, 8), Scene.request(1, 0), 0, nak(1, 0));
    }

    private static void declineOfAnyNumber() {
        int[] numbers = {MIN, -1, 0, 1, 2, 255, 256, 1023, 1024, MAX};
        for (int n : numbers) {
            Subject x = withPool(5, 9, 16);
            Scene.lease(x, 1, 0, 5);
            unmoved("DECLINE of " + n, x, decline(1, 0, n));
            unmoved("DECLINE of " + n + ", giaddr 9", x, decline(1, 0, n).giaddr(9));
        }
        Subject x = withPool(5, 9, 16);
        Scene.lease(x, 1, 0, 5);
        unmoved("DECLINE of none", x, Msg.toServer(Msg.DECLINE, 1, 0));
        unmoved("DECLINE of another's", x, decline(1, 1, 5));
        unmoved("DECLINE by ciaddr", x, Msg.toServer(Msg.DECLINE, 1, 0).ciaddr(5));
        for (int time = 15; time <= 17; time++) {
            Subject y = withPool(5, 5, 16);
            Scene.lease(y, 1, 0, 5);
            Scene.ticks(y, time);
            silent("DECLINE at " + time, y, decline(1, 0, 5));
            Check.record("DECLINE at " + time, y, 5, DECLINED, -1, time + 100);
            unmoved("DECLINE again", y, decline(1, 0, 5));
        }
        int[][] edges = {{0, 2}, {0, 250}, {3, 2}, {3, 250}};
        for (int[] e : edges) {
            Subject y = new Subject();
            y.pool(e[0], e[1], e[1], 16);
            y.pool(1, 9, 9, 16);
            Scene.lease(y, 1, 0, 256 * e[0] + e[1]);
            silent("by way of another subnet", y, decline(1, 0, 256 * e[0] + e[1]).giaddr(257));
            Check.record("by way of another subnet", y, 256 * e[0] + e[1], DECLINED, -1, 100);
        }
    }

    private static void releaseOfAnyNumber() {
        int[] numbers = {MIN, -1, 0, 1, 2, 255, 256, 1023, 1024, MAX};
        for (int n : numbers) {
            Subject x = withPool(5, 9, 16);
            Scene.lease(x, 1, 0, 5);
            unmoved("RELEASE of " + n, x, release(1, 0, n));
            unmoved("RELEASE of " + n + ", giaddr 9", x, release(1, 0, n).giaddr(9));
        }
        Subject x = withPool(5, 9, 16);
        Scene.lease(x, 1, 0, 5);
        asks("offered", x, Scene.discover(1, 1), 1, offer(1, 1, 6, 16));
        x.tick();
        unmoved("RELEASE of an offer", x, release(1, 1, 6));
        unmoved("RELEASE of another's", x, release(1, 1, 5));
        unmoved("RELEASE by wanted", x, Msg.toServer(Msg.RELEASE, 1, 0).wanted(5));
        for (int time = 15; time <= 17; time++) {
            Subject y = withPool(5, 5, 16);
            Scene.lease(y, 1, 0, 5);
            Scene.ticks(y, time);
            silent("RELEASE at " + time, y, release(1, 0, 5));
            Check.record("RELEASE at " + time, y, 5, LEASED, 0, time);
        }
        Subject z = withPool(5, 5, 16);
        Scene.lease(z, 1, 0, 5);
        Scene.ticks(z, 3);
        z.pool(0, 6, 9, 16);
        silent("RELEASE of one that is of no pool any more", z, release(1, 0, 5));
        Check.record("RELEASE of one that is of no pool any more", z, 5, LEASED, 0, 3);
        z.tick();
        z.pool(3, 2, 2, 16);
        silent("by way of another subnet", z, release(1, 0, 5).giaddr(769));
        Check.record("by way of another subnet", z, 5, LEASED, 0, 4);
    }

    private static void othersNothing() {
        for (int type = 0; type < 256; type++) {
            if (type != 1 && type != 3 && type != 4 && type != 7) {
                Subject x = withPool(2, 5, 16);
                Scene.lease(x, 1, 0, 2);
                unmoved("type " + type, x, Msg.toServer(type, 1, 0).ciaddr(2).wanted(2).server(1));
                unmoved("type " + type + " alone", x, Msg.toServer(type, 1, 0));
            }
        }
        Subject x = withPool(2, 5, 16);
        Scene.lease(x, 1, 0, 2);
        unmoved("no type", x, Msg.head(1, 1, 0).ciaddr(2).wanted(2).server(1));
    }
}
