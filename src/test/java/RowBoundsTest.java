import java.util.NoSuchElementException;

/** The row of packets, the tape and the relays, empty, full and at their bounds. */
public final class RowBoundsTest {
    private static final int FULL = 60;

    public static void main(String[] args) {
        anEmptyRow();
        aFullRow();
        whatIsSentToAFullRowIsLost();
        aLostOneWasSent();
        aCarriedOneMakesRoom();
        twiceMakesNoRoom();
        ticksFillTheRow();
        runOfAFullRow();
        runOfFewerOrMore();
        runCarriesWhatComesOfIt();
        bytesOfAPacket();
        theTape();
        injectedIntoAFullRow();
        everyPlace();
        hopsOfARelay();
        hopsOfSeveralRelays();
        giaddrOfARelay();
        chaddrOfARelay();
        Check.end();
    }

    private static Subject withRow(int packets) {
        Subject x = new Subject();
        Scene.fillRow(x, packets);
        return x;
    }

    private static void row(String when, Subject x, int packets, int lost) {
        Check.same(when + ": packets", x.packets(), packets);
        Check.same(when + ": lost", x.count(1), lost);
    }

    private static void anEmptyRow() {
        Subject x = new Subject();
        row("new", x, 0, 0);
        Check.same("run(200) of none", x.run(200), 0);
        Check.same("run(0) of none", x.run(0), 0);
        x.type(7, 1);
        x.inject(5);
        row("one", x, 1, 0);
        Check.same("carry(0)", x.carry(0), 5);
        row("none again", x, 0, 0);
        Check.fails("carry(0) of none", x, NoSuchElementException.class, () -> x.carry(0));
        Check.fails("packet(0, 0) of none", x, NoSuchElementException.class, () -> x.packet(0, 0));
        Check.fails("packet(0, -1) of none", x, NoSuchElementException.class, () -> x.packet(0, -1));
        Check.fails("packet(0, 60) of none", x, NoSuchElementException.class, () -> x.packet(0, 60));
        Check.fails("twice(0) of none", x, NoSuchElementException.class, () -> x.twice(0));
        Check.fails("drop(0) of none", x, NoSuchElementException.class, () -> x.drop(0));
    }

    private static void aFullRow() {
        Subject x = new Subject();
        for (int k = 0; k < FULL; k++) {
            row("before " + k, x, k, 0);
            x.type(k, 1);
            x.inject(k % 12);
        }
        row("full", x, FULL, 0);
        for (int k = 0; k < FULL; k++) {
            Check.same("place of " + k, x.packet(k, -1), k % 12);
            Check.same("byte of " + k, x.packet(k, 0), k);
        }
        Check.fails("packet 60", x, NoSuchElementException.class, () -> x.packet(60, 0));
        Check.same("the last is carried", x.carry(59), 11);
        Check.fails("then there is no packet 59", x, NoSuchElementException.class, () -> x.carry(59));
        Check.same("the first is carried", x.carry(0), 0);
        Check.same("the next is first then", x.packet(0, 0), 1);
        x.drop(30);
        Check.same("before the one that is dropped", x.packet(29, 0), 30);
        Check.same("behind it", x.packet(30, 0), 32);
        Check.same("the last", x.packet(56, 0), 58);
        row("three less", x, 57, 0);
    }

    /** The last one that fits and the first that does not, of each that sends. */
    private static void whatIsSentToAFullRowIsLost() {
        for (int before = FULL - 1; before <= FULL; before++) {
            int lost = before - FULL + 1;
            String with = " with " + before + " before";
            Subject x = withRow(before);
            x.join(0, 0);
            row("DISCOVER" + with, x, FULL, lost);
            Subject leaving = Scene.inState(3);
            Scene.fillRow(leaving, before);
            leaving.leave(Scene.CLIENT);
            row("RELEASE" + with, leaving, FULL, lost);
            Subject again = Scene.inState(3);
            again.off(Scene.CLIENT);
            Scene.fillRow(again, before);
            again.join(Scene.CLIENT, 2);
            row("REQUEST, again," + with, again, FULL, lost);
            Subject ticking = Scene.inState(1);
            Scene.fillRow(ticking, before);
            Scene.ticks(ticking, 4);
            row("a tick" + with, ticking, FULL, lost);
            Subject typing = withRow(before);
            typing.type(1, 1);
            typing.inject(16);
            row("inject" + with, typing, FULL, lost);
            answers(before, lost, with);
        }
    }

    /** A packet that comes twice stays, so its answer finds the row as it was. */
    private static void answers(int before, int lost, String with) {
        Subject server = new Subject();
        server.pool(0, 2, 9, 16);
        twiceFirst(server, Scene.discover(1, 0).end(), 16, before);
        row("OFFER" + with, server, FULL, lost);
        Check.record("it is offered all the same", server, 2, 1, 0, 8);
        Subject nak = new Subject();
        nak.pool(0, 2, 9, 16);
        twiceFirst(nak, Scene.request(1, 0).server(1).end(), 16, before);
        row("NAK" + with, nak, FULL, lost);
        Subject relay = new Subject();
        twiceFirst(relay, Scene.discover(1, 0).end(), 13, before);
        row("a relay" + with, relay, FULL, lost);
        Subject back = new Subject();
        twiceFirst(back, Msg.toClient(Msg.OFFER, 1, 0).end(), 15, before);
        row("a relay back" + with, back, FULL, lost);
        Subject client = Scene.inState(1);
        twiceFirst(client, Scene.offered(1, Scene.CLIENT, 300, 1), Scene.CLIENT, before);
        row("REQUEST" + with, client, FULL, lost);
        Subject strange = Scene.inState(2);
        strange.strange(300, true);
        twiceFirst(strange, Scene.acked(2, Scene.CLIENT, 300, 40), Scene.CLIENT, before);
        row("DECLINE" + with, strange, FULL, lost);
    }

    private static void twiceFirst(Subject x, Msg m, int place, int packets) {
        m.inject(x, place);
        Scene.fillRow(x, packets);
        x.twice(0);
    }

    /** Who sends does not know of it: its xid, its state and SENT are as if it went. */
    private static void aLostOneWasSent() {
        Subject x = withRow(FULL);
        x.tick();
        x.join(4, 2);
        Check.client("selecting", x, 4, 1, 0, 0, 0, 1, 1, 2);
        Scene.clear(x);
        Scene.ticks(x, 3);
        Check.same("SENT was at 1", x.packets(), 0);
        x.tick();
        Check.packet("try 2", x, 0, 14, Scene.discover(2, 4).end());
        Subject y = Scene.inState(3);
        Scene.fillRow(y, FULL);
        y.leave(Scene.CLIENT);
        Check.client("left", y, Scene.CLIENT, 0, 0, 0, 0, 3, 1, 1);
        row("left", y, FULL, 1);
        Subject z = Scene.inState(3);
        Scene.fillRow(z, FULL);
        Scene.ticks(z, 20);
        Check.client("renewing", z, Scene.CLIENT, 4, 300, 40, 300, 3, 1, 1);
        row("renewing", z, FULL, 1);
        Scene.ticks(z, 8);
        row("not sent again before 28", z, FULL, 2);
        Check.client("sent again", z, Scene.CLIENT, 4, 300, 40, 300, 4, 1, 1);
    }

    private static void aCarriedOneMakesRoom() {
        Subject x = new Subject();
        x.pool(0, 2, 9, 16);
        Scene.discover(1, 0).end().inject(x, 16);
        Scene.fillRow(x, FULL);
        Check.same("carried", x.carry(0), 16);
        row("its answer takes its room", x, FULL, 0);
        Check.packet("at the end", x, 59, 0, Msg.toClient(Msg.OFFER, 1, 0).yiaddr(2).lease(16).server(1).end());
        Check.same("run(59)", x.run(59), 59);
        Check.packet("it is left", x, 0, 0, Msg.toClient(Msg.OFFER, 1, 0).yiaddr(2).lease(16).server(1).end());
    }

    private static void twiceMakesNoRoom() {
        Subject x = new Subject();
        Scene.fillRow(x, 58);
        Scene.discover(1, 0).end().inject(x, 15);
        x.twice(58);
        row("59 and one more", x, FULL, 0);
        Check.packet("it is there still", x, 58, 15, Scene.discover(1, 0).end());
        Check.packet("and goes on too", x, 59, 16, Scene.discover(1, 0).hops(1).giaddr(769).end());
        x.twice(58);
        row("60 and one more", x, FULL, 1);
        x.twice(0);
        row("one that nobody looks at", x, FULL, 1);
        x.drop(0);
        x.twice(57);
        row("59 again", x, FULL, 1);
    }

    /** Clients in their order: the last ones find no room. */
    private static void ticksFillTheRow() {
        Subject x = new Subject();
        for (int c = 11; c >= 0; c--) {
            x.join(c, 0);
        }
        Scene.clear(x);
        Scene.fillRow(x, 55);
        Scene.ticks(x, 4);
        row("5 of 12", x, FULL, 7);
        for (int c = 0; c < 5; c++) {
            Check.packet("client " + c, x, 55 + c, 16, Scene.discover(2, c).end());
        }
        for (int c = 0; c < 12; c++) {
            Check.client("each has sent", x, c, 1, 0, 0, 0, 2, 2, 0);
        }
    }

    private static void runOfAFullRow() {
        int[] numbers = {0, 1, 59, 60, 61, 199, 200};
        for (int n : numbers) {
            Subject x = withRow(FULL);
            Check.same("run(" + n + ") of 60", x.run(n), Math.min(n, FULL));
            row("run(" + n + ") of 60", x, Math.max(0, FULL - n), 0);
        }
    }

    private static void runOfFewerOrMore() {
        for (int size = 0; size < 4; size++) {
            for (int n = 0; n < 6; n++) {
                Subject x = withRow(size);
                Check.same("run(" + n + ") of " + size, x.run(n), Math.min(n, size));
                row("run(" + n + ") of " + size, x, Math.max(0, size - n), 0);
            }
        }
    }

    /** A client on subnet 1 gets its address by eight packets: twice relay, server, relay, client. */
    private static void runCarriesWhatComesOfIt() {
        for (int n = 0; n < 10; n++) {
            Subject x = new Subject();
            x.pool(1, 2, 2, 16);
            x.join(0, 1);
            Check.same("run(" + n + ")", x.run(n), Math.min(n, 8));
            row("run(" + n + ")", x, n < 8 ? 1 : 0, 0);
            Check.same("state behind run(" + n + ")", x.client(0, 0), n < 4 ? 1 : n < 8 ? 2 : 3);
        }
        Subject y = new Subject();
        y.pool(1, 2, 60, 16);
        for (int k = 0; k < FULL; k++) {
            Scene.discover(1, k % 12).end().inject(y, 13);
        }
        Check.same("200 of 240", y.run(200), 200);
        row("200 of 240", y, 40, 0);
        Check.same("the rest", y.run(200), 40);
    }

    private static void bytesOfAPacket() {
        int[] bytes = {0, 1, 127, 128, 254, 255};
        Subject x = new Subject();
        for (int b : bytes) {
            x.type(b, 1);
        }
        x.inject(16);
        for (int i = 0; i < bytes.length; i++) {
            Check.same("byte " + i, x.packet(0, i), bytes[i]);
        }
        Check.same("place", x.packet(0, -1), 16);
        Check.same("length", x.packet(0, -2), 6);
        Check.fails("byte 6", x, IndexOutOfBoundsException.class, () -> x.packet(0, 6));
        Check.fails("byte -3", x, IndexOutOfBoundsException.class, () -> x.packet(0, -3));
        x.type(-1, 1);
        x.inject(0);
        Check.same("one byte", x.packet(1, -2), 1);
        Check.same("the only one", x.packet(1, 0), 255);
        Check.fails("a second one", x, IndexOutOfBoundsException.class, () -> x.packet(1, 1));
        new Msg().raw(new int[59]).raw(9).inject(x, 11);
        Check.same("60 bytes", x.packet(2, -2), 60);
        Check.same("the last one", x.packet(2, 59), 9);
        Check.fails("one more", x, IndexOutOfBoundsException.class, () -> x.packet(2, 60));
        x.drop(2);
        x.type(5, 1);
        x.inject(1);
        Check.fails("a packet before it had 60", x, IndexOutOfBoundsException.class, () -> x.packet(2, 1));
    }

    private static void theTape() {
        for (int before = 50; before <= 60; before++) {
            for (int n = -1; n <= 10; n++) {
                boolean fits = n >= 1 && n <= 8 && before + n <= 60;
                Subject x = new Subject();
                new Msg().raw(new int[before]).typeOn(x);
                Check.same("type of " + n + " behind " + before, x.type(-1, n), fits);
                x.inject(0);
                int length = fits ? before + n : before;
                Check.same("its length", x.packet(0, -2), length);
                for (int i = 50; i < length; i++) {
                    Check.same("byte " + i, x.packet(0, i), i < before ? 0 : 255);
                }
            }
        }
        for (int n = 1; n <= 8; n++) {
            Subject x = new Subject();
            Check.same("type of " + n, x.type(0x00FF807F01FE8100L, n), true);
            x.inject(0);
            int[] want = {0x00, 0x81, 0xFE, 0x01, 0x7F, 0x80, 0xFF, 0x00};
            for (int i = 0; i < n; i++) {
                Check.same("byte " + i + " of " + n, x.packet(0, i), want[i]);
            }
            Check.same("no more than " + n, x.packet(0, -2), n);
        }
        long[] ends = {Long.MIN_VALUE, Long.MAX_VALUE, -1, 0};
        int[] lows = {0, 255, 255, 0};
        int[] highs = {128, 127, 255, 0};
        for (int j = 0; j < ends.length; j++) {
            Subject x = new Subject();
            x.type(ends[j], 8);
            x.inject(0);
            Check.same("lowest of " + ends[j], x.packet(0, 0), lows[j]);
            Check.same("highest of " + ends[j], x.packet(0, 7), highs[j]);
        }
    }

    private static void injectedIntoAFullRow() {
        Subject x = withRow(FULL);
        Scene.discover(1, 0).end().typeOn(x);
        x.inject(16);
        row("lost", x, FULL, 1);
        Check.fails("the tape was taken", x, IllegalArgumentException.class, () -> x.inject(16));
        Check.same("it is empty", x.type(0, 8), true);
        for (int j = 0; j < 6; j++) {
            Check.same("and takes 60", x.type(0, 8), true);
        }
        Check.same("and takes 60", x.type(0, 4), true);
        Check.same("no more", x.type(0, 1), false);
        Check.fails("a wrong place is not lost", x, IllegalArgumentException.class, () -> x.inject(12));
    }

    private static void everyPlace() {
        for (int place = -2; place < 20; place++) {
            int to = place;
            Subject x = new Subject();
            x.type(1, 1);
            if (place >= 0 && place <= 16 && place != 12) {
                x.inject(place);
                Check.same("place " + place, x.packet(0, -1), place);
                Check.same("carried to " + place, x.carry(0), place);
            } else {
                Check.fails("place " + place, x, IllegalArgumentException.class, () -> x.inject(to));
            }
        }
    }

    /** "hops grows by 1 (from 4 on the message is not looked at)" */
    private static void hopsOfARelay() {
        for (int hops = 0; hops < 256; hops++) {
            Subject x = new Subject();
            Scene.discover(1, 0).hops(hops).end().bring(x, 13);
            Check.same("hops " + hops, x.packets(), hops < 4 ? 1 : 0);
            if (hops < 4) {
                Check.packet("hops " + hops, x, 0, 16, Scene.discover(1, 0).hops(hops + 1).giaddr(257).end());
            }
            Msg back = Msg.toClient(Msg.OFFER, 1, 0).hops(hops).end();
            back.bring(x, 13);
            Check.packet("back with hops " + hops, x, x.packets() - 1, 0, back);
            x.pool(0, 2, 9, 16);
            Scene.discover(1, 5).hops(hops).end().bring(x, 16);
            Check.record("the server does not look at hops " + hops, x, 2, 1, 5, 8);
        }
    }

    /** The first one's address stays, while hops grow. */
    private static void hopsOfSeveralRelays() {
        Subject x = new Subject();
        Msg m = Scene.discover(1, 0).end();
        for (int hops = 1; hops <= 4; hops++) {
            m.bring(x, 12 + (hops % 3 + 1));
            m = Scene.discover(1, 0).hops(hops).giaddr(513).end();
            Check.packet("relay " + hops, x, hops - 1, 16, m);
        }
        m.bring(x, 15);
        row("the fifth", x, 4, 0);
    }

    private static void giaddrOfARelay() {
        int[] numbers = {0, 1, -1, 255, 256, 257, 1 << 24, Integer.MIN_VALUE, Integer.MAX_VALUE};
        for (int n : numbers) {
            for (int subnet = 1; subnet < 4; subnet++) {
                Subject x = new Subject();
                Scene.discover(1, 0).giaddr(n).end().bring(x, 12 + subnet);
                int want = n == 0 ? 256 * subnet + 1 : n;
                Check.packet("giaddr " + n, x, 0, 16, Scene.discover(1, 0).hops(1).giaddr(want).end());
                Msg back = Msg.toClient(Msg.OFFER, 1, 0).giaddr(n).end();
                back.bring(x, 12 + subnet);
                Check.packet("back with giaddr " + n, x, 1, 0, back);
            }
        }
    }

    private static void chaddrOfARelay() {
        for (int chaddr = 0; chaddr < 256; chaddr++) {
            Subject x = new Subject();
            Msg back = Msg.toClient(Msg.OFFER, 1, chaddr).end();
            back.bring(x, 14);
            Check.same("chaddr " + chaddr, x.packets(), chaddr < 12 ? 1 : 0);
            if (chaddr < 12) {
                Check.packet("chaddr " + chaddr, x, 0, chaddr, back);
            }
            Scene.discover(1, chaddr).end().bring(x, 14);
            Check.packet("to the server it goes with any", x, x.packets() - 1, 16,
                    Scene.discover(1, chaddr).hops(1).giaddr(513).end());
        }
    }
}
