/** Clients: promises 3 to 6, 8 and 18, and what a client does with each message and tick. */
public final class ClientTest {
    public static void main(String[] args) {
        offer();
        offerIgnored();
        ack();
        ackIgnored();
        ackTimes();
        ackWhereNoneIsDue();
        nak();
        strange();
        strangeWhileRenewing();
        selectingTries();
        requestingTries();
        rebootingTries();
        rebootingEnds();
        rebootingAnswered();
        renewing();
        rebinding();
        shortLeases();
        everyClientInTurn();
        Check.end();
    }

    /** One packet is under way, and it is this one; it is dropped. */
    private static void sends(String when, Subject x, int place, Msg want) {
        Check.same(when + ": packets", x.packets(), 1);
        Check.packet(when, x, 0, place, want.end());
        Scene.clear(x);
    }

    private static void quiet(String when, Subject x) {
        Check.same(when + ": packets", x.packets(), 0);
    }

    /** Ticks that bring nothing, and then one that does. */
    private static void after(String when, Subject x, int n, int place, Msg want) {
        Scene.ticks(x, n - 1);
        quiet(when + ", one tick before", x);
        x.tick();
        sends(when, x, place, want);
    }

    private static void offer() {
        Subject x = Scene.selecting(3, 2);
        Scene.ticks(x, 2);
        Scene.offered(1, 3, 600, 77).bring(x, 3);
        sends("request", x, 14, Scene.request(2, 3).wanted(600).server(77));
        Check.client("requesting", x, 3, 2, 0, 0, 0, 2, 1, 2);
        Scene.offered(2, 3, 601, 77).bring(x, 3);
        quiet("a second offer", x);
        Subject y = Scene.selecting(3, 0);
        Scene.ticks(y, 4);
        Scene.clear(y);
        Check.client("try 2", y, 3, 1, 0, 0, 0, 2, 2, 0);
        Scene.offered(2, 3, 0x81020304, -8).bring(y, 3);
        sends("any address but 0", y, 16, Scene.request(3, 3).wanted(0x81020304).server(-8));
        Check.client("try 1 again", y, 3, 2, 0, 0, 0, 3, 1, 0);
    }

    private static void offerIgnored() {
        Subject x = Scene.selecting(3, 0);
        String before = Look.all(x);
        Scene.offered(1, 3, 0, 1).bring(x, 3);
        Scene.offered(1, 3, 5, 0).bring(x, 3);
        Msg.toClient(Msg.OFFER, 1, 3).yiaddr(5).end().bring(x, 3);
        Scene.offered(0, 3, 5, 1).bring(x, 3);
        Scene.offered(2, 3, 5, 1).bring(x, 3);
        Scene.offered(1, 4, 5, 1).bring(x, 3);
        Scene.offered(1, 3, 5, 1).bring(x, 4);
        Msg.toServer(Msg.OFFER, 1, 3).yiaddr(5).server(1).end().bring(x, 3);
        Msg.toClient(Msg.OFFER, 1, 3).yiaddr(5).server(1).bring(x, 3);
        Msg.head(2, 1, 3).yiaddr(5).server(1).end().bring(x, 3);
        Scene.acked(1, 3, 5, 10).bring(x, 3);
        Scene.naked(1, 3).bring(x, 3);
        Check.same("nothing changed", Look.all(x).equals(before), true);
        Subject y = new Subject();
        Scene.offered(0, 3, 5, 1).bring(y, 3);
        Check.same("nor is one that is off moved", y.client(3, 0) + y.packets(), 0);
        Subject z = Scene.bound(3, 0, 5, 10);
        z.off(3);
        String then = Look.all(z);
        Scene.acked(2, 3, 6, 20).bring(z, 3);
        Scene.naked(2, 3).bring(z, 3);
        Scene.offered(2, 3, 6, 1).bring(z, 3);
        Check.same("nor by anything later", Look.all(z).equals(then), true);
    }

    private static void ack() {
        Subject x = Scene.selecting(3, 1);
        Scene.ticks(x, 3);
        Scene.offered(1, 3, 300, 1).bring(x, 3);
        Scene.clear(x);
        Scene.ticks(x, 2);
        Scene.acked(2, 3, 301, 40).bring(x, 3);
        Check.client("bound from when it was sent", x, 3, 3, 301, 43, 301, 2, 1, 1);
        quiet("bound", x);
        Scene.acked(2, 3, 302, 50).bring(x, 3);
        Scene.naked(2, 3).bring(x, 3);
        Check.client("bound already", x, 3, 3, 301, 43, 301, 2, 1, 1);
    }

    private static void ackIgnored() {
        Subject x = Scene.requesting(3, 0, 5);
        Scene.ticks(x, 2);
        String before = Look.all(x);
        Scene.acked(2, 3, 0, 40).bring(x, 3);
        Scene.acked(2, 3, 5, 0).bring(x, 3);
        Scene.acked(2, 3, 5, -1).bring(x, 3);
        Scene.acked(2, 3, 5, Integer.MIN_VALUE).bring(x, 3);
        Msg.toClient(Msg.ACK, 2, 3).yiaddr(5).end().bring(x, 3);
        Scene.acked(2, 3, 5, 1).bring(x, 3);
        Scene.acked(2, 3, 5, 2).bring(x, 3);
        Scene.acked(1, 3, 5, 40).bring(x, 3);
        Scene.acked(3, 3, 5, 40).bring(x, 3);
        Scene.acked(2, 2, 5, 40).bring(x, 3);
        Msg.toServer(Msg.ACK, 2, 3).yiaddr(5).lease(40).end().bring(x, 3);
        Msg.toClient(Msg.DISCOVER, 2, 3).yiaddr(5).lease(40).end().bring(x, 3);
        Check.same("nothing changed", Look.all(x).equals(before), true);
        Scene.acked(2, 3, 5, 3).bring(x, 3);
        Check.client("just long enough", x, 3, 3, 5, 3, 5);
    }

    private static void ackTimes() {
        Subject x = Scene.bound(3, 0, 5, 10001);
        Check.client("10000 of more", x, 3, 3, 5, 10000, 5);
        Subject y = Scene.bound(3, 0, -5, Integer.MAX_VALUE);
        Check.client("of very much more, to any address", y, 3, 3, -5, 10000, -5);
        Subject z = Scene.bound(3, 0, 5, 10000);
        Check.client("10000", z, 3, 3, 5, 10000, 5);
    }

    private static void ackWhereNoneIsDue() {
        Subject x = Scene.requesting(3, 0, 5);
        x.strange(5, true);
        Scene.acked(2, 3, 5, 40).bring(x, 3);
        Scene.clear(x);
        Scene.acked(3, 3, 6, 40).bring(x, 3);
        Scene.naked(3, 3).bring(x, 3);
        Scene.offered(3, 3, 6, 1).bring(x, 3);
        Check.client("one that waits hears nothing", x, 3, 7, 0, 0, 0, 3, 1, 0);
    }

    private static void nak() {
        Subject x = Scene.requesting(3, 1, 5);
        Scene.naked(1, 3).bring(x, 3);
        Scene.naked(3, 3).bring(x, 3);
        Scene.naked(2, 4).bring(x, 3);
        quiet("another's NAK", x);
        Scene.naked(2, 3).bring(x, 3);
        sends("requesting", x, 13, Scene.discover(3, 3));
        Check.client("requesting", x, 3, 1, 0, 0, 0, 3, 1, 1);

        Subject y = Scene.bound(3, 0, 5, 40);
        Scene.ticks(y, 20);
        Scene.clear(y);
        Scene.naked(3, 3).bring(y, 3);
        sends("renewing", y, 16, Scene.discover(4, 3));
        Check.client("renewing", y, 3, 1, 0, 0, 0, 4, 1, 0);

        Subject z = Scene.bound(3, 0, 5, 40);
        Scene.ticks(z, 35);
        Scene.clear(z);
        Check.same("rebinding", z.client(3, 0), 5);
        Scene.naked(z.client(3, 4), 3).bring(z, 3);
        Check.client("rebinding", z, 3, 1, 0, 0, 0);
    }

    private static void strange() {
        Subject x = Scene.requesting(3, 2, 600);
        x.strange(600, true);
        Scene.ticks(x, 2);
        Scene.acked(2, 3, 600, 40).bring(x, 3);
        sends("decline", x, 14, Msg.toServer(Msg.DECLINE, 3, 3).wanted(600));
        Check.client("waiting", x, 3, 7, 0, 0, 0, 3, 1, 2);
        after("begins", x, 10, 14, Scene.discover(4, 3));
        Check.client("selecting", x, 3, 1, 0, 0, 0, 4, 1, 2);

        Subject y = Scene.requesting(3, 0, 5);
        y.strange(5, true);
        y.strange(5, false);
        y.strange(1023, true);
        Scene.acked(2, 3, 5, 40).bring(y, 3);
        Check.same("not strange any more", y.client(3, 0), 3);
        y.strange(5, true);
        Scene.ticks(y, 2);
        Check.same("not looked at once bound", y.client(3, 0), 3);
        y.off(3);
        y.join(3, 0);
        Scene.clear(y);
        Scene.acked(3, 3, 5, 40).bring(y, 3);
        sends("when rebooting", y, 16, Msg.toServer(Msg.DECLINE, 4, 3).wanted(5));
        Check.client("when rebooting", y, 3, 7, 0, 0, 0, 4, 1, 0);
        y.off(3);
        y.join(3, 0);
        sends("it has no address to come again with", y, 16, Scene.discover(5, 3));

        Subject z = Scene.requesting(3, 0, 5);
        z.strange(5, true);
        Scene.acked(2, 3, 5, 0).bring(z, 3);
        Check.same("an ACK that is none", z.client(3, 0), 2);
        Scene.acked(2, 3, 1023, 40).bring(z, 3);
        Check.same("only that one is strange", z.client(3, 0), 3);
        Subject far = Scene.requesting(3, 0, 5);
        far.strange(1023, true);
        Scene.acked(2, 3, 1023, 40).bring(far, 3);
        Check.same("the last address", far.client(3, 0), 7);
    }

    private static void strangeWhileRenewing() {
        Subject x = Scene.bound(3, 0, 5, 40);
        x.strange(5, true);
        Scene.ticks(x, 20);
        Scene.clear(x);
        Scene.ticks(x, 1);
        Scene.acked(3, 3, 5, 40).bring(x, 3);
        Check.client("renewed", x, 3, 3, 5, 60, 5, 3, 1, 0);
        Scene.ticks(x, 34);
        Check.same("rebinding", x.client(3, 0), 5);
        Scene.clear(x);
        Scene.acked(x.client(3, 4), 3, 5, 40).bring(x, 3);
        Check.client("rebound", x, 3, 3, 5, 95, 5);
    }

    private static void selectingTries() {
        Subject x = Scene.selecting(3, 1);
        after("try 2", x, 4, 13, Scene.discover(2, 3));
        Check.client("try 2", x, 3, 1, 0, 0, 0, 2, 2, 1);
        after("try 3", x, 8, 13, Scene.discover(3, 3));
        Check.client("try 3", x, 3, 1, 0, 0, 0, 3, 3, 1);
        for (int more = 4; more < 7; more++) {
            after("try 3 again", x, 16, 13, Scene.discover(more, 3));
            Check.client("try 3 again", x, 3, 1, 0, 0, 0, more, 3, 1);
        }
        x.off(3);
        Check.client("the last try is kept", x, 3, 0, 0, 0, 0, 6, 3, 1);
        Scene.ticks(x, 40);
        quiet("off", x);
    }

    private static void requestingTries() {
        Subject x = Scene.requesting(3, 0, 5);
        after("try 2", x, 4, 16, Scene.request(3, 3).wanted(5).server(77));
        Check.client("try 2", x, 3, 2, 0, 0, 0, 3, 2, 0);
        Scene.acked(2, 3, 5, 40).bring(x, 3);
        Check.same("an answer to try 1 is late", x.client(3, 0), 2);
        after("try 3", x, 8, 16, Scene.request(4, 3).wanted(5).server(77));
        Check.client("try 3", x, 3, 2, 0, 0, 0, 4, 3, 0);
        after("begins", x, 16, 16, Scene.discover(5, 3));
        Check.client("begins", x, 3, 1, 0, 0, 0, 5, 1, 0);
    }

    private static void rebootingTries() {
        Subject x = Scene.bound(3, 0, 5, 100);
        Scene.ticks(x, 2);
        x.off(3);
        x.join(3, 2);
        sends("again", x, 14, Scene.request(3, 3).wanted(5));
        Check.client("again", x, 3, 6, 5, 100, 0, 3, 1, 2);
        after("try 2", x, 4, 14, Scene.request(4, 3).wanted(5));
        Check.client("try 2", x, 3, 6, 5, 100, 0, 4, 2, 2);
        after("try 3", x, 8, 14, Scene.request(5, 3).wanted(5));
        Check.client("try 3", x, 3, 6, 5, 100, 0, 5, 3, 2);
        Scene.ticks(x, 15);
        Check.same("still rebooting", x.client(3, 0), 6);
        x.tick();
        Check.client("bound as before", x, 3, 3, 5, 100, 5, 5, 3, 2);
        quiet("bound as before", x);
        Check.same("the time", x.count(0), 30);
        after("renewal as before", x, 20, 16, Scene.request(6, 3).ciaddr(5));
        Check.same("renewing", x.client(3, 0), 4);
        Scene.ticks(x, 37);
        Scene.clear(x);
        Check.same("not yet rebinding", x.client(3, 0), 4);
        x.tick();
        Check.same("rebinding as before", x.client(3, 0), 5);
        Check.same("by the relay where it is now", x.packet(0, -1), 14);
    }

    private static void rebootingEnds() {
        Subject x = Scene.bound(3, 0, 5, 10);
        Scene.ticks(x, 4);
        x.off(3);
        Scene.ticks(x, 5);
        x.join(3, 0);
        sends("one tick before the end", x, 16, Scene.request(3, 3).wanted(5));
        x.tick();
        sends("the end", x, 16, Scene.discover(4, 3));
        Check.client("the end", x, 3, 1, 0, 0, 0, 4, 1, 0);
        Subject y = Scene.bound(3, 0, 5, 10);
        y.off(3);
        Scene.ticks(y, 10);
        y.join(3, 0);
        sends("at the end", y, 16, Scene.discover(3, 3));
        Check.client("at the end", y, 3, 1, 0, 0, 0, 3, 1, 0);

        Subject z = Scene.bound(3, 0, 5, 32);
        z.off(3);
        Scene.ticks(z, 3);
        z.join(3, 0);
        Scene.ticks(z, 28);
        Check.client("rebooted late", z, 3, 3, 5, 32, 5);
        Scene.clear(z);
        z.tick();
        Check.same("the end comes before all else", z.client(3, 0), 1);
    }

    private static void rebootingAnswered() {
        Subject x = Scene.bound(3, 0, 5, 100);
        x.off(3);
        x.join(3, 1);
        Scene.clear(x);
        Scene.ticks(x, 1);
        Scene.offered(3, 3, 300, 1).bring(x, 3);
        Check.same("an offer is not for it", x.client(3, 0), 6);
        Scene.acked(3, 3, 300, 50).bring(x, 3);
        Check.client("another address", x, 3, 3, 300, 50, 300, 3, 1, 1);
        x.off(3);
        x.join(3, 1);
        Scene.clear(x);
        Scene.naked(4, 3).bring(x, 3);
        sends("NAK", x, 13, Scene.discover(5, 3));
        Check.client("NAK", x, 3, 1, 0, 0, 0, 5, 1, 1);
    }

    private static void renewing() {
        Subject x = Scene.bound(3, 1, 300, 80);
        after("renewal, to the server itself", x, 40, 16, Scene.request(3, 3).ciaddr(300));
        Check.client("renewing", x, 3, 4, 300, 80, 300, 3, 1, 1);
        // Rebinding time is 70: half of 30, of 15 upward, of 7 upward, of 3 upward, and not below 2.
        after("again at 55", x, 15, 16, Scene.request(4, 3).ciaddr(300));
        after("again at 63", x, 8, 16, Scene.request(5, 3).ciaddr(300));
        after("again at 67", x, 4, 16, Scene.request(6, 3).ciaddr(300));
        after("again at 69", x, 2, 16, Scene.request(7, 3).ciaddr(300));
        after("rebinding at 70", x, 1, 13, Scene.request(8, 3).ciaddr(300));
        Check.client("rebinding", x, 3, 5, 300, 80, 300, 8, 1, 1);

        Subject y = Scene.bound(3, 1, 300, 81);
        after("half of 81", y, 40, 16, Scene.request(3, 3).ciaddr(300));
        Scene.acked(3, 3, 301, 8).bring(y, 3);
        Check.client("renewed, with another address", y, 3, 3, 301, 48, 301, 3, 1, 1);
        after("half of 8", y, 4, 16, Scene.request(4, 3).ciaddr(301));
        Scene.offered(4, 3, 5, 1).bring(y, 3);
        Check.same("an offer is not for it", y.client(3, 0), 4);
    }

    private static void rebinding() {
        Subject x = Scene.bound(3, 1, 300, 80);
        Scene.ticks(x, 70);
        Scene.clear(x);
        Check.client("rebinding", x, 3, 5, 300, 80, 300, 8, 1, 1);
        // The end is 80: half of 10, of 5 upward, and not below 2.
        after("again at 75", x, 5, 13, Scene.request(9, 3).ciaddr(300));
        after("again at 78", x, 3, 13, Scene.request(10, 3).ciaddr(300));
        after("the end", x, 2, 13, Scene.discover(11, 3));
        Check.client("the end", x, 3, 1, 0, 0, 0, 11, 1, 1);

        Subject y = Scene.bound(3, 0, 5, 80);
        Scene.ticks(y, 75);
        Scene.clear(y);
        y.tick();
        Scene.acked(9, 3, 5, 79).bring(y, 3);
        Check.client("rebound from 75", y, 3, 3, 5, 154, 5);
        after("its renewal", y, 38, 16, Scene.request(10, 3).ciaddr(5));
        // 79 - 79 / 8 = 70: the rebinding time is 145.
        Scene.ticks(y, 30);
        Check.same("not before 145", y.client(3, 0), 4);
        y.tick();
        Check.same("at 145", y.client(3, 0), 5);
    }

    private static void shortLeases() {
        Subject x = Scene.bound(3, 0, 5, 1);
        after("lease 1", x, 1, 16, Scene.discover(3, 3));
        Subject y = Scene.bound(3, 0, 5, 2);
        after("lease 2 renews", y, 1, 16, Scene.request(3, 3).ciaddr(5));
        after("lease 2 ends", y, 1, 16, Scene.discover(4, 3));
        Subject z = Scene.bound(3, 0, 5, 3);
        after("lease 3 renews", z, 1, 16, Scene.request(3, 3).ciaddr(5));
        after("lease 3 ends", z, 2, 16, Scene.discover(4, 3));
        Subject w = Scene.bound(3, 0, 5, 8);
        after("lease 8 renews at 4", w, 4, 16, Scene.request(3, 3).ciaddr(5));
        after("again at 6", w, 2, 16, Scene.request(4, 3).ciaddr(5));
        after("rebinds at 7", w, 1, 16, Scene.request(5, 3).ciaddr(5));
        Check.same("rebinding", w.client(3, 0), 5);
        after("ends at 8", w, 1, 16, Scene.discover(6, 3));
    }

    private static void everyClientInTurn() {
        Subject x = new Subject();
        for (int c = 11; c >= 0; c--) {
            x.join(c, c % 4);
        }
        Scene.clear(x);
        Scene.ticks(x, 4);
        Check.same("all try again", x.packets(), 12);
        for (int c = 0; c < 12; c++) {
            Check.packet("in turn", x, c, c % 4 == 0 ? 16 : 12 + c % 4, Scene.discover(2, c).end());
        }
    }
}
