/** What the document's Terms say of a client and of a tick, at their bounds, each sentence by itself. */
public final class ClientBoundsTest {
    private static final int MIN = Integer.MIN_VALUE;
    private static final int MAX = Integer.MAX_VALUE;
    private static final int C = Scene.CLIENT;
    private static final int SELECTING = 1;
    private static final int REQUESTING = 2;
    private static final int BOUND = 3;
    private static final int RENEWING = 4;
    private static final int REBINDING = 5;
    private static final int REBOOTING = 6;
    private static final int WAITING = 7;

    public static void main(String[] args) {
        xid1AtFirstAnd1Greater();
        againWithAnEndLaterThanNow();
        itsNumber();
        itsLastXid();
        opOfAMessage();
        offerInEachState();
        offerWithYiaddrAndServerNot0();
        ackInEachState();
        ackWithYiaddrNot0();
        aLeaseAbove0();
        sentAndTheLeaseLaterThanNow();
        strangeInEachState();
        strangeAtTheEnds();
        nakInEachState();
        otherTypesInEachState();
        timesOfALease();
        timesOfTheLongestLease();
        halfOfTheTimeUpward();
        halfOfALongTime();
        triesOfSelecting();
        triesOfRequesting();
        triesOfRebooting();
        itsTryOnlyWhereItIsNamed();
        itsTryWhileItWaits();
        theEndComesFirst();
        boundAsBefore();
        waiting10Ticks();
        aTickOfOneThatIsOff();
        Check.end();
    }

    private static void moved(String when, Subject x, Msg m, boolean isMoved) {
        String before = Look.all(x);
        m.bring(x, C);
        Check.same(when + " does something", !Look.all(x).equals(before), isMoved);
    }

    private static int xid(Subject x) {
        return x.client(C, 4);
    }

    /** DISCOVER, REQUEST and RELEASE by three calls, until the xid needs more than one byte. */
    private static void xid1AtFirstAnd1Greater() {
        Subject x = new Subject();
        Check.client("0 at first", x, C, 0, 0, 0, 0, 0);
        x.pool(0, 2, 2, 16);
        for (int n = 1; n < 300; n += 3) {
            x.join(C, 0);
            Check.packet("DISCOVER, xid " + n, x, n == 1 ? 0 : 1, 16, Scene.discover(n, C).end());
            Check.client("DISCOVER, xid " + n, x, C, SELECTING, 0, 0, 0, n);
            x.run(200);
            Check.client("REQUEST, xid " + (n + 1), x, C, BOUND, 2, 16, 2, n + 1);
            x.leave(C);
            Check.packet("RELEASE, xid " + (n + 2), x, 0, 16, Msg.toServer(Msg.RELEASE, n + 2, C).ciaddr(2).end());
            Check.client("RELEASE, xid " + (n + 2), x, C, 0, 0, 0, 0, n + 2);
        }
    }

    private static void againWithAnEndLaterThanNow() {
        for (int time = 8; time <= 12; time++) {
            Subject x = Scene.bound(C, 0, 5, 10);
            x.off(C);
            Scene.ticks(x, time);
            Check.client("it keeps its address", x, C, 0, 5, 10, 0, 2, 1, 0);
            x.join(C, 2);
            boolean has = time < 10;
            Check.client("again at " + time, x, C, has ? REBOOTING : SELECTING, has ? 5 : 0, has ? 10 : 0, 0, 3, 1, 2);
            Check.packet("again at " + time, x, 0, 14,
                    has ? Scene.request(3, C).wanted(5).end() : Scene.discover(3, C).end());
        }
        int[] addresses = {MIN, -1, 1, 255, 1024, MAX};
        for (int a : addresses) {
            Subject x = Scene.bound(C, 0, a, 10);
            x.off(C);
            x.join(C, 0);
            Check.client("again with " + a, x, C, REBOOTING, a, 10, 0, 3, 1, 0);
            Check.packet("again with " + a, x, 0, 16, Scene.request(3, C).wanted(a).end());
        }
        Subject x = Scene.inState(WAITING);
        x.off(C);
        x.join(C, 0);
        Check.client("without address", x, C, SELECTING, 0, 0, 0, 4, 1, 0);
    }

    private static void itsNumber() {
        for (int chaddr = 0; chaddr < 256; chaddr++) {
            moved("OFFER for " + chaddr, Scene.inState(SELECTING), Scene.offered(1, chaddr, 5, 1), chaddr == C);
            moved("ACK for " + chaddr, Scene.inState(REQUESTING), Scene.acked(2, chaddr, 5, 40), chaddr == C);
            moved("NAK for " + chaddr, Scene.inState(REQUESTING), Scene.naked(2, chaddr), chaddr == C);
        }
        for (int place = 0; place < 12; place++) {
            Subject x = Scene.inState(SELECTING);
            Scene.offered(1, C, 5, 1).bring(x, place);
            Check.same("at place " + place, x.client(C, 0), place == C ? REQUESTING : SELECTING);
        }
    }

    private static void itsLastXid() {
        int[] xids = {MIN, -1, 0, 1, 2, 3, 4, 256 + 2, 1 << 24, 0x02000000, MAX};
        for (int n : xids) {
            moved("OFFER of " + n, Scene.inState(SELECTING), Scene.offered(n, C, 5, 1), n == 1);
            moved("ACK of " + n, Scene.inState(REQUESTING), Scene.acked(n, C, 5, 40), n == 2);
            moved("NAK of " + n, Scene.inState(REQUESTING), Scene.naked(n, C), n == 2);
        }
        Subject x = new Subject();
        moved("OFFER of 0 to one that has sent none", x, Scene.offered(0, C, 5, 1), false);
    }

    private static void opOfAMessage() {
        for (int op = 0; op < 256; op++) {
            moved("OFFER with op " + op, Scene.inState(SELECTING),
                    Msg.head(op, 1, C).yiaddr(5).raw(53, 1, 2).server(1).end(), op == 2);
        }
    }

    private static void offerInEachState() {
        for (int state = 0; state < 8; state++) {
            Subject x = Scene.inState(state);
            moved("OFFER in " + state, x, Scene.offered(xid(x), C, 5, 1), state == SELECTING);
        }
        for (int subnet = 0; subnet < 4; subnet++) {
            Subject x = Scene.selecting(C, subnet);
            Scene.ticks(x, 4);
            Scene.clear(x);
            Scene.offered(2, C, 5, 9).bring(x, C);
            Check.client("requesting", x, C, REQUESTING, 0, 0, 0, 3, 1, subnet);
            Check.packet("requesting", x, 0, subnet == 0 ? 16 : 12 + subnet,
                    Scene.request(3, C).wanted(5).server(9).end());
        }
    }

    private static void offerWithYiaddrAndServerNot0() {
        int[] numbers = {MIN, -1, 0, 1, 127, 128, 255, 256, 1023, 1024, MAX};
        for (int y : numbers) {
            for (int s : numbers) {
                Subject x = Scene.inState(SELECTING);
                moved("yiaddr " + y + ", server " + s, x, Scene.offered(1, C, y, s), y != 0 && s != 0);
                if (y != 0 && s != 0) {
                    Check.packet("asked for", x, 0, 13, Scene.request(2, C).wanted(y).server(s).end());
                }
            }
        }
        moved("without server", Scene.inState(SELECTING), Msg.toClient(Msg.OFFER, 1, C).yiaddr(5).end(), false);
        moved("without lease", Scene.inState(SELECTING), Scene.offered(1, C, 5, 1), true);
    }

    private static boolean awaits(int state) {
        return state == REQUESTING || state == RENEWING || state == REBINDING || state == REBOOTING;
    }

    private static void ackInEachState() {
        for (int state = 0; state < 8; state++) {
            Subject x = Scene.inState(state);
            int now = x.count(0);
            moved("ACK in " + state, x, Scene.acked(xid(x), C, 301, 80), awaits(state));
            if (awaits(state)) {
                Check.client("ACK in " + state, x, C, BOUND, 301, now + 80, 301);
                Check.same("it sends nothing", x.packets(), 0);
            }
        }
    }

    private static void ackWithYiaddrNot0() {
        int[] numbers = {MIN, -1, 0, 1, 127, 128, 255, 256, 1023, 1024, MAX};
        for (int state = 2; state < 7; state++) {
            for (int y : numbers) {
                if (awaits(state)) {
                    Subject x = Scene.inState(state);
                    moved("yiaddr " + y + " in " + state, x, Scene.acked(xid(x), C, y, 80), y != 0);
                    if (y != 0) {
                        Check.client("yiaddr " + y, x, C, BOUND, y, x.count(0) + 80, y);
                    }
                }
            }
        }
    }

    private static void aLeaseAbove0() {
        int[] leases = {MIN, MIN + 1, -10000, -1, 0, 1, 2, 127, 128, 255, 256, 9999, 10000, 10001, 65536, MAX - 1, MAX};
        for (int state = 2; state < 7; state++) {
            for (int lease : leases) {
                if (awaits(state)) {
                    Subject x = Scene.inState(state);
                    int end = x.count(0) + Math.min(lease, 10000);
                    moved("lease " + lease + " in " + state, x, Scene.acked(xid(x), C, 301, lease), lease > 0);
                    if (lease > 0) {
                        Check.client("lease " + lease, x, C, BOUND, 301, end, 301);
                    }
                }
            }
        }
        moved("without lease", Scene.inState(REQUESTING), Msg.toClient(Msg.ACK, 2, C).yiaddr(5).end(), false);
    }

    /** An ACK that comes some ticks behind the request that it answers. */
    private static void sentAndTheLeaseLaterThanNow() {
        for (int late = 0; late < 4; late++) {
            for (int lease = 1; lease < 6; lease++) {
                Subject x = Scene.selecting(C, 0);
                Scene.ticks(x, 2);
                Scene.offered(1, C, 5, 1).bring(x, C);
                Scene.ticks(x, late);
                moved("lease " + lease + ", " + late + " late", x, Scene.acked(2, C, 5, lease), lease > late);
                Check.same("its end", x.client(C, 2), lease > late ? 2 + lease : 0);
            }
        }
        for (int state = 4; state < 7; state++) {
            for (int lease = 1; lease < 4; lease++) {
                Subject x = Scene.inState(state);
                int sent = x.count(0);
                Scene.ticks(x, 2);
                Check.same("nothing sent meanwhile", x.packets(), 0);
                moved("lease " + lease + " in " + state, x, Scene.acked(xid(x), C, 301, lease), lease > 2);
                Check.same("its end in " + state, x.client(C, 2), lease > 2 ? sent + lease : 40);
            }
        }
    }

    private static void strangeInEachState() {
        for (int state = 2; state < 7; state++) {
            if (awaits(state)) {
                Subject x = Scene.inState(state);
                x.strange(301, true);
                int last = xid(x);
                boolean declines = state == REQUESTING || state == REBOOTING;
                Scene.acked(last, C, 301, 80).bring(x, C);
                if (declines) {
                    Check.client("strange in " + state, x, C, WAITING, 0, 0, 0, last + 1, 1, 1);
                    Check.packet("strange in " + state, x, 0, 13,
                            Msg.toServer(Msg.DECLINE, last + 1, C).wanted(301).end());
                } else {
                    Check.client("not looked at in " + state, x, C, BOUND, 301, x.count(0) + 80, 301, last, 1, 1);
                }
                Check.same("packets", x.packets(), declines ? 1 : 0);
            }
        }
        Subject late = Scene.inState(REQUESTING);
        late.strange(301, true);
        late.tick();
        moved("an ACK that comes too late is not declined", late, Scene.acked(2, C, 301, 1), false);
        moved("one of no lease neither", late, Scene.acked(2, C, 301, 0), false);
    }

    private static void strangeAtTheEnds() {
        int[] addresses = {1, 2, 255, 256, 1022, 1023};
        for (int a : addresses) {
            for (int y = a - 1; y <= a + 1; y++) {
                if (y != 0) {
                    Subject x = Scene.inState(REQUESTING);
                    x.strange(a, true);
                    Scene.acked(2, C, y, 80).bring(x, C);
                    Check.same(a + " is strange: ACK of " + y, x.client(C, 0), y == a ? WAITING : BOUND);
                }
            }
        }
        int[] beyond = {MIN, -1, 1024, 1025, 256 * 256 + 1, MAX};
        for (int y : beyond) {
            Subject x = Scene.inState(REQUESTING);
            for (int a : addresses) {
                x.strange(a, true);
            }
            Scene.acked(2, C, y, 80).bring(x, C);
            Check.client("ACK of " + y, x, C, BOUND, y, 80, y);
        }
        Subject x = Scene.inState(REQUESTING);
        x.strange(301, true);
        x.strange(301, true);
        x.strange(301, false);
        Scene.acked(2, C, 301, 80).bring(x, C);
        Check.same("not any more", x.client(C, 0), BOUND);
    }

    private static void nakInEachState() {
        for (int state = 0; state < 8; state++) {
            Subject x = Scene.inState(state);
            int last = xid(x);
            moved("NAK in " + state, x, Scene.naked(last, C), awaits(state));
            if (awaits(state)) {
                Check.client("NAK in " + state, x, C, SELECTING, 0, 0, 0, last + 1, 1, 1);
                Check.packet("NAK in " + state, x, 0, 13, Scene.discover(last + 1, C).end());
            }
        }
    }

    private static void otherTypesInEachState() {
        for (int state = 0; state < 8; state++) {
            for (int type = 0; type < 256; type++) {
                if (type != 2 && type != 5 && type != 6) {
                    Subject x = Scene.inState(state);
                    Msg m = Msg.toClient(type, xid(x), C).yiaddr(301).lease(80).server(1).end();
                    int packets = x.packets();
                    m.bring(x, C);
                    Check.same("type " + type + " in " + state, x.client(C, 0), state);
                    Check.same("it sends nothing", x.packets(), packets);
                }
            }
            Subject x = Scene.inState(state);
            moved("no type in " + state, x, Msg.head(2, xid(x), C).yiaddr(301).lease(80).server(1).end(), false);
        }
    }

    /** "RENEWAL is SENT and lease / 2, REBINDING time SENT and lease - lease / 8"; a tick does one thing. */
    private static void timesOfALease() {
        for (int lease = 1; lease <= 50; lease++) {
            Subject x = Scene.selecting(C, 0);
            Scene.ticks(x, 3);
            Scene.offered(1, C, 5, 1).bring(x, C);
            Scene.acked(2, C, 5, lease).bring(x, C);
            int renewal = Math.max(1, lease / 2);
            int rebinding = Math.max(renewal + 1, lease - lease / 8);
            for (int time = 0; time <= lease; time++) {
                int want = time >= lease ? SELECTING : time < renewal ? BOUND : time < rebinding ? RENEWING : REBINDING;
                Check.same("lease " + lease + " at " + time, x.client(C, 0), want);
                Check.same("its address", x.client(C, 1), time < lease ? 5 : 0);
                Check.same("its end", x.client(C, 2), time < lease ? 3 + lease : 0);
                Scene.clear(x);
                x.tick();
            }
        }
    }

    /** As many ticks as an object is used for calls do not end it, nor bring its renewal. */
    private static void timesOfTheLongestLease() {
        int[] leases = {10000, 10001, MAX};
        for (int lease : leases) {
            Subject x = Scene.bound(C, 0, 5, lease);
            Scene.ticks(x, 480);
            Check.client("lease " + lease, x, C, BOUND, 5, 10000, 5, 2, 1, 0);
            Check.same("it sends nothing", x.packets(), 0);
        }
    }

    /** "half of the time (from SENT to the rebinding time, or the end; upward, 2 at least) ago, or more" */
    private static void halfOfTheTimeUpward() {
        for (int lease = 8; lease <= 120; lease++) {
            Subject x = Scene.bound(C, 1, 300, lease);
            int rebinding = lease - lease / 8;
            int sent = lease / 2;
            Scene.ticks(x, sent);
            Scene.clear(x);
            for (int time = sent + 1; time < lease; time++) {
                x.tick();
                boolean isRebinding = time >= rebinding;
                int left = (isRebinding ? lease : rebinding) - sent;
                boolean sends = time == rebinding || time - sent >= 2 && 2 * (time - sent) >= left;
                Check.same("lease " + lease + " at " + time, x.packets(), sends ? 1 : 0);
                if (sends) {
                    Check.packet("at " + time, x, 0, isRebinding ? 13 : 16, Scene.request(xid(x), C).ciaddr(300).end());
                    sent = time;
                }
                Scene.clear(x);
            }
            x.tick();
            Check.packet("the end of " + lease, x, 0, 13, Scene.discover(xid(x), C).end());
        }
    }

    /** Longer ones, at some times: 400 is renewed at 200, 275, 313, 332, 341, 346, 348, and to all at 350. */
    private static void halfOfALongTime() {
        int[] leases = {399, 400, 401, 407, 408};
        for (int lease : leases) {
            Subject x = Scene.bound(C, 0, 5, lease);
            int rebinding = lease - lease / 8;
            int sent = lease / 2;
            int xid = 3;
            Scene.ticks(x, sent);
            for (int time = sent + 1; time < lease; time++) {
                x.tick();
                int left = (time >= rebinding ? lease : rebinding) - sent;
                if (time == rebinding || time - sent >= 2 && 2 * (time - sent) >= left) {
                    sent = time;
                    xid++;
                }
                Check.client("lease " + lease + " at " + time, x, C, time < rebinding ? RENEWING : REBINDING, 5, lease,
                        5, xid);
            }
        }
    }

    /** At 4, 12, 28, and then each 16 ticks. */
    private static void triesOfSelecting() {
        Subject x = Scene.selecting(C, 2);
        int xid = 1;
        int turn = 1;
        for (int time = 1; time <= 80; time++) {
            x.tick();
            boolean sends = time == 4 || time == 12 || time == 28 || time == 44 || time == 60 || time == 76;
            xid += sends ? 1 : 0;
            turn = Math.min(3, turn + (sends ? 1 : 0));
            Check.same("packets at " + time, x.packets(), sends ? 1 : 0);
            Check.client("at " + time, x, C, SELECTING, 0, 0, 0, xid, turn, 2);
            if (sends) {
                Check.packet("at " + time, x, 0, 14, Scene.discover(xid, C).end());
            }
            Scene.clear(x);
        }
    }

    /** At 4 and 12 again, and at 28 it begins. */
    private static void triesOfRequesting() {
        Subject x = Scene.requesting(C, 2, 600);
        for (int time = 1; time <= 32; time++) {
            x.tick();
            int turn = time < 4 ? 1 : time < 12 ? 2 : time < 28 ? 3 : time < 32 ? 1 : 2;
            int xid = time < 4 ? 2 : time < 12 ? 3 : time < 28 ? 4 : time < 32 ? 5 : 6;
            boolean sends = time == 4 || time == 12 || time == 28 || time == 32;
            Check.same("packets at " + time, x.packets(), sends ? 1 : 0);
            Check.client("at " + time, x, C, time < 28 ? REQUESTING : SELECTING, 0, 0, 0, xid, turn, 2);
            if (sends) {
                Msg want = time < 28 ? Scene.request(xid, C).wanted(600).server(Scene.OFFERER) : Scene.discover(xid, C);
                Check.packet("at " + time, x, 0, 14, want.end());
            }
            Scene.clear(x);
        }
    }

    /** At 4 and 12 again, and at 28 it is bound, which sends nothing. */
    private static void triesOfRebooting() {
        Subject x = Scene.bound(C, 0, 600, 100);
        x.off(C);
        x.join(C, 2);
        Scene.clear(x);
        for (int time = 1; time <= 49; time++) {
            x.tick();
            int turn = time < 4 ? 1 : time < 12 ? 2 : 3;
            int xid = time < 4 ? 3 : time < 12 ? 4 : 5;
            boolean sends = time == 4 || time == 12;
            boolean isBound = time >= 28;
            Check.same("packets at " + time, x.packets(), sends ? 1 : 0);
            Check.client("at " + time, x, C, isBound ? BOUND : REBOOTING, 600, 100, isBound ? 600 : 0, xid, turn, 2);
            if (sends) {
                Check.packet("at " + time, x, 0, 14, Scene.request(xid, C).wanted(600).end());
            }
            Scene.clear(x);
        }
        x.tick();
        Check.client("its renewal as before", x, C, RENEWING, 600, 100, 600, 6, 3, 2);
    }

    /** It is 1 where a sentence says so, and else the last one that it had. */
    private static void itsTryOnlyWhereItIsNamed() {
        Subject x = Scene.selecting(C, 0);
        Scene.ticks(x, 4);
        Check.client("selecting", x, C, SELECTING, 0, 0, 0, 2, 2);
        Scene.offered(2, C, 5, 1).bring(x, C);
        Check.client("an offer", x, C, REQUESTING, 0, 0, 0, 3, 1);
        Scene.ticks(x, 4);
        Check.client("requesting", x, C, REQUESTING, 0, 0, 0, 4, 2);
        Scene.acked(4, C, 5, 40).bring(x, C);
        Check.client("bound", x, C, BOUND, 5, 48, 5, 4, 2);
        x.off(C);
        Check.client("off", x, C, 0, 5, 48, 0, 4, 2);
        x.join(C, 0);
        Check.client("again", x, C, REBOOTING, 5, 48, 0, 5, 1);
        Scene.ticks(x, 12);
        Check.client("rebooting", x, C, REBOOTING, 5, 48, 0, 7, 3);
        Scene.acked(7, C, 5, 8).bring(x, C);
        Check.client("bound again", x, C, BOUND, 5, 28, 5, 7, 3);
        Scene.ticks(x, 4);
        Check.client("renewing", x, C, RENEWING, 5, 28, 5, 8, 3);
        Scene.ticks(x, 3);
        Check.client("rebinding", x, C, REBINDING, 5, 28, 5, 10, 3);
        x.off(C);
        x.join(C, 0);
        Check.client("again from try 3", x, C, REBOOTING, 5, 28, 0, 11, 1);
        x.tick();
        Check.client("the end", x, C, SELECTING, 0, 0, 0, 12, 1);
        Scene.ticks(x, 12);
        x.leave(C);
        Check.client("left", x, C, 0, 0, 0, 0, 14, 3);
        x.join(C, 0);
        Check.client("it begins", x, C, SELECTING, 0, 0, 0, 15, 1);
    }

    /** One that waits keeps the try in which it was told of the address. */
    private static void itsTryWhileItWaits() {
        int[] times = {0, 4, 12};
        for (int j = 0; j < times.length; j++) {
            Subject x = Scene.requesting(C, 1, 300);
            x.strange(300, true);
            Scene.ticks(x, times[j]);
            Scene.acked(2 + j, C, 300, 40).bring(x, C);
            Check.client("waiting from try " + (j + 1), x, C, WAITING, 0, 0, 0, 3 + j, j + 1);
            Scene.ticks(x, 10);
            Check.client("then it begins", x, C, SELECTING, 0, 0, 0, 4 + j, 1);
        }
    }

    /** In 3, 4, 5, 6 the end is the first of what fits, though a try or a renewal would fit too. */
    private static void theEndComesFirst() {
        int[] lasts = {4, 12, 28};
        for (int last : lasts) {
            for (int lease = last + 9; lease <= last + 11; lease++) {
                Subject x = Scene.bound(C, 0, 5, lease);
                x.off(C);
                Scene.ticks(x, 10);
                x.join(C, 0);
                Scene.ticks(x, last - 1);
                Scene.clear(x);
                boolean isOver = lease == last + 9;
                Check.same("the end before try " + last, x.client(C, 0), isOver ? SELECTING : REBOOTING);
                x.tick();
                boolean ends = lease == last + 10;
                if (ends) {
                    Check.client("the end at a try's time", x, C, SELECTING, 0, 0, 0);
                    Check.packet("the end at a try's time", x, 0, 16, Scene.discover(xid(x), C).end());
                } else if (!isOver) {
                    Check.same("the end behind a try", x.client(C, 0), last == 28 ? BOUND : REBOOTING);
                    x.tick();
                    Check.same("then the end", x.client(C, 0), SELECTING);
                }
            }
        }
        Subject one = Scene.bound(C, 0, 5, 1);
        one.tick();
        Check.packet("the end before the renewal", one, 0, 16, Scene.discover(3, C).end());
    }

    private static void boundAsBefore() {
        Subject x = Scene.bound(C, 0, 5, 40);
        Scene.ticks(x, 10);
        x.off(C);
        x.join(C, 0);
        Scene.ticks(x, 28);
        Scene.clear(x);
        Check.client("bound at 38, behind its rebinding time", x, C, BOUND, 5, 40, 5, 5, 3, 0);
        x.tick();
        Check.client("a tick does one thing", x, C, RENEWING, 5, 40, 5, 6, 3, 0);
        x.tick();
        Check.client("then the end", x, C, SELECTING, 0, 0, 0, 7, 1, 0);
        Subject y = Scene.bound(C, 0, 5, 48);
        Scene.ticks(y, 14);
        y.off(C);
        y.join(C, 0);
        Scene.ticks(y, 28);
        Check.same("bound at 42, its rebinding time", y.client(C, 0), BOUND);
        y.tick();
        Check.same("renewing at 43", y.client(C, 0), RENEWING);
        y.tick();
        Check.same("rebinding at 44", y.client(C, 0), REBINDING);
    }

    private static void waiting10Ticks() {
        Subject x = Scene.inState(REQUESTING);
        Scene.ticks(x, 3);
        x.strange(300, true);
        Scene.acked(2, C, 300, 40).bring(x, C);
        Scene.clear(x);
        for (int time = 1; time < 10; time++) {
            x.tick();
            Check.client("waiting for " + time, x, C, WAITING, 0, 0, 0, 3, 1, 1);
            Check.same("quiet", x.packets(), 0);
        }
        x.tick();
        Check.client("10 ticks ago", x, C, SELECTING, 0, 0, 0, 4, 1, 1);
        Check.packet("10 ticks ago", x, 0, 13, Scene.discover(4, C).end());
    }

    private static void aTickOfOneThatIsOff() {
        Subject x = new Subject();
        Scene.ticks(x, 100);
        Check.client("never on", x, C, 0, 0, 0, 0, 0, 0, 0);
        Check.same("nothing is sent", x.packets(), 0);
        for (int state = 1; state < 8; state++) {
            Subject y = Scene.inState(state);
            y.off(C);
            int address = y.client(C, 1);
            int end = y.client(C, 2);
            int xid = xid(y);
            Scene.ticks(y, 60);
            Check.client("off from " + state, y, C, 0, address, end, 0, xid, 1, 1);
            Check.same("nothing is sent", y.packets(), 0);
        }
    }
}
