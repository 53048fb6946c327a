import java.util.NoSuchElementException;

/**
 * The promises' own bounds, where a call is taken: the first and the last of what it takes, in each
 * state of a client. What is refused stands in RefusedTest, the row and the tape in RowBoundsTest.
 */
public final class CallBoundsTest {
    private static final int C = Scene.CLIENT;

    public static void main(String[] args) {
        promise1New();
        promise2PoolFirstAndLast();
        promise2PoolFromNowOn();
        promise3JoinEachClientAndSubnet();
        promise3JoinOnlyFromOff();
        promise4OffInEachState();
        promise5LeaveInEachState();
        promise5LeaveThenJoin();
        promise6StrangeFirstAndLast();
        promise7DownTwice();
        promise8TickTellsTheTime();
        promise12TwiceIsUnderWayStill();
        promise13DropOfEach();
        promise16ToldStays();
        promise17InjectTakes();
        promise18ClientInEachState();
        promise19RecordFirstAndLast();
        promise20Count();
        Check.end();
    }

    private static void promise1New() {
        Subject used = new Subject();
        String fresh = Look.all(used);
        used.pool(0, 2, 250, 8);
        used.join(0, 0);
        used.run(200);
        used.strange(2, true);
        used.down(true);
        used.type(1, 8);
        used.tick();
        Subject x = new Subject();
        Check.same("a second object is new", Look.all(x).equals(fresh), true);
        Check.same("its tape is empty", x.type(0, 8), true);
        for (int s = 0; s < 4; s++) {
            Scene.discover(1, 0).giaddr(256 * s + 1).end().bring(x, 16);
        }
        Check.same("no subnet has a pool", x.packets() + x.count(2) + x.count(4), 0);
    }

    private static void promise2PoolFirstAndLast() {
        int[][] good = {{0, 2, 2, 8}, {3, 250, 250, 10000}, {0, 2, 250, 8}, {3, 2, 250, 10000}, {1, 249, 250, 9},
            {2, 127, 128, 9999}};
        for (int[] p : good) {
            Subject x = new Subject();
            x.pool(p[0], p[1], p[2], p[3]);
            Check.same("free", x.count(4), p[2] - p[1] + 1);
            x.join(C, p[0]);
            x.run(200);
            int first = 256 * p[0] + p[1];
            Check.client("its first address", x, C, 3, first, p[3], first, 2, 1, p[0]);
        }
        Subject all = new Subject();
        for (int s = 0; s < 4; s++) {
            all.pool(s, 2, 250, 8);
            Check.same("all of " + s, all.count(4), 249 * (s + 1));
        }
    }

    private static void promise2PoolFromNowOn() {
        Subject x = new Subject();
        x.pool(0, 2, 3, 16);
        x.join(C, 0);
        x.carry(0);
        x.pool(0, 2, 3, 20);
        Check.packet("an offer under way is as it was", x, 0, C,
                Msg.toClient(Msg.OFFER, 1, C).yiaddr(2).lease(16).server(1).end());
        x.run(200);
        Check.client("the lease is the new one", x, C, 3, 2, 20, 2);
        x.pool(0, 3, 3, 30);
        Check.client("what was leased stays", x, C, 3, 2, 20, 2);
        Check.record("what was leased stays", x, 2, 2, C, 20);
        Check.same("but is of no pool", x.count(4), 1);
        x.join(4, 0);
        x.run(200);
        Check.client("the next", x, 4, 3, 3, 30, 3);
        Check.same("none is free", x.count(4), 0);
        x.pool(1, 3, 3, 30);
        Check.same("of another subnet", x.count(4), 1);
    }

    private static void promise3JoinEachClientAndSubnet() {
        for (int c = 0; c < 12; c++) {
            for (int s = 0; s < 4; s++) {
                Subject x = new Subject();
                x.join(c, s);
                Check.client("joined", x, c, 1, 0, 0, 0, 1, 1, s);
                Check.packet("joined", x, 0, s == 0 ? 16 : 12 + s, Scene.discover(1, c).end());
                Check.same("one packet", x.packets(), 1);
                for (int other = 0; other < 12; other++) {
                    if (other != c) {
                        Check.client("no other", x, other, 0, 0, 0, 0, 0, 0, 0);
                    }
                }
            }
        }
    }

    private static void promise3JoinOnlyFromOff() {
        for (int state = 1; state < 8; state++) {
            Subject x = Scene.inState(state);
            for (int s = 0; s < 4; s++) {
                int subnet = s;
                Check.fails("join in " + state, x, IllegalStateException.class, () -> x.join(C, subnet));
            }
            Check.fails("join in " + state, x, NoSuchElementException.class, () -> x.join(C, 4));
        }
    }

    private static boolean uses(int state) {
        return state == 3 || state == 4 || state == 5;
    }

    private static void promise4OffInEachState() {
        for (int state = 1; state < 8; state++) {
            Subject x = Scene.inState(state);
            boolean has = uses(state) || state == 6;
            int xid = x.client(C, 4);
            x.off(C);
            Check.client("off from " + state, x, C, 0, has ? 300 : 0, has ? 40 : 0, 0, xid, 1, 1);
            Check.same("it sends nothing", x.packets(), 0);
            Check.fails("off again", x, IllegalStateException.class, () -> x.off(C));
            Check.fails("leave then", x, IllegalStateException.class, () -> x.leave(C));
            Check.client("it keeps its address still", x, C, 0, has ? 300 : 0, has ? 40 : 0, 0, xid, 1, 1);
        }
    }

    private static void promise5LeaveInEachState() {
        for (int state = 1; state < 8; state++) {
            Subject x = Scene.inState(state);
            int xid = x.client(C, 4);
            x.leave(C);
            Check.same("packets from " + state, x.packets(), uses(state) ? 1 : 0);
            Check.client("left from " + state, x, C, 0, 0, 0, 0, uses(state) ? xid + 1 : xid, 1, 1);
            if (uses(state)) {
                Check.packet("left from " + state, x, 0, 16, Msg.toServer(Msg.RELEASE, xid + 1, C).ciaddr(300).end());
            }
            Check.fails("leave again", x, IllegalStateException.class, () -> x.leave(C));
        }
    }

    private static void promise5LeaveThenJoin() {
        for (int state = 1; state < 8; state++) {
            Subject x = Scene.inState(state);
            x.leave(C);
            Scene.clear(x);
            x.join(C, 0);
            Check.same("it begins without address", x.client(C, 0), 1);
            Check.packet("it begins", x, 0, 16, Scene.discover(x.client(C, 4), C).end());
        }
    }

    private static void promise6StrangeFirstAndLast() {
        int[] addresses = {1, 255, 256, 1023};
        for (int a : addresses) {
            Subject x = Scene.inState(2);
            String before = Look.all(x);
            x.strange(a, true);
            Check.same("it shows nowhere by itself", Look.all(x).equals(before), true);
            Scene.acked(2, C, a, 40).bring(x, C);
            Check.same(a + " is strange", x.client(C, 0), 7);
            Subject y = Scene.inState(2);
            y.strange(a, true);
            y.strange(a, false);
            y.strange(a, false);
            Scene.acked(2, C, a, 40).bring(y, C);
            Check.same(a + " is not", y.client(C, 0), 3);
        }
    }

    private static void promise7DownTwice() {
        Subject x = new Subject();
        x.down(false);
        Check.same("up", x.count(3), 1);
        x.down(true);
        x.down(true);
        Check.same("down", x.count(3), 0);
        x.down(false);
        Check.same("up again, once", x.count(3), 1);
    }

    private static void promise8TickTellsTheTime() {
        Subject x = new Subject();
        Check.same("0 at first", x.count(0), 0);
        for (int time = 1; time <= 250; time++) {
            Check.same("tick", x.tick(), time);
            Check.same("time", x.count(0), time);
        }
        x.down(true);
        Check.same("while it is down", x.tick(), 251);
    }

    private static void promise12TwiceIsUnderWayStill() {
        for (int k = 0; k < 3; k++) {
            Subject x = new Subject();
            x.join(0, 1);
            x.join(1, 2);
            x.join(2, 3);
            x.twice(k);
            Check.same("one more", x.packets(), 4);
            for (int j = 0; j < 3; j++) {
                Check.packet("each is there", x, j, 13 + j, Scene.discover(1, j).end());
            }
            Check.packet("what came of " + k, x, 3, 16,
                    Scene.discover(1, k).hops(1).giaddr(256 * (k + 1) + 1).end());
        }
    }

    private static void promise13DropOfEach() {
        for (int k = 0; k < 3; k++) {
            Subject x = new Subject();
            x.pool(1, 2, 3, 8);
            x.join(0, 1);
            x.join(1, 2);
            x.join(2, 3);
            x.drop(k);
            Check.same("one less", x.packets(), 2);
            Check.packet("first", x, 0, k == 0 ? 14 : 13, Scene.discover(1, k == 0 ? 1 : 0).end());
            Check.packet("second", x, 1, k == 2 ? 14 : 15, Scene.discover(1, k == 2 ? 1 : 2).end());
            Check.same("it is not lost", x.count(1), 0);
        }
    }

    private static void promise16ToldStays() {
        Subject x = new Subject();
        Msg m = Scene.request(7, 11).wanted(5).end();
        m.typeOn(x);
        int[] want = {1, 0, 7, 0, 0, 0, 11, 3, 5, 0, 0};
        for (int again = 0; again < 2; again++) {
            for (int what = 0; what < 11; what++) {
                Check.same("told(" + what + ")", x.told(what), want[what]);
            }
        }
        x.inject(16);
        Check.packet("the tape as it was", x, 0, 16, m);
    }

    private static void promise17InjectTakes() {
        Subject x = new Subject();
        x.type(5, 1);
        x.inject(16);
        Check.fails("the tape is empty", x, IllegalArgumentException.class, () -> x.inject(16));
        Check.fails("as a message it is broken", x, IllegalArgumentException.class, () -> x.told(0));
        x.type(6, 1);
        x.inject(0);
        Check.packet("only what was typed since", x, 1, 0, new Msg().raw(6));
    }

    /** Up to state 5 a renewal was sent at 20, 28, 32, 34, and to all at 35. */
    private static void promise18ClientInEachState() {
        int[][] want = {{0, 0, 0, 0, 0, 0, 0}, {1, 0, 0, 0, 1, 1, 1}, {2, 0, 0, 0, 2, 1, 1}, {3, 300, 40, 300, 2, 1, 1},
            {4, 300, 40, 300, 3, 1, 1}, {5, 300, 40, 300, 7, 1, 1}, {6, 300, 40, 0, 3, 1, 1}, {7, 0, 0, 0, 3, 1, 1}};
        for (int state = 0; state < 8; state++) {
            Check.client("in state " + state, Scene.inState(state), C, want[state]);
        }
    }

    private static void promise19RecordFirstAndLast() {
        Subject x = new Subject();
        Check.record("the first", x, 1, 0, -1, 0);
        Check.record("the last", x, 1023, 0, -1, 0);
        x.pool(0, 2, 2, 8);
        x.pool(3, 250, 250, 8);
        Scene.discover(1, 0).end().bring(x, 16);
        Check.record("client 0", x, 2, 1, 0, 8);
        Scene.lease(x, 1, 11, 1018);
        Check.record("client 11", x, 1018, 2, 11, 8);
        int[] others = {1, 3, 1017, 1019, 1023, 258, 514};
        for (int a : others) {
            Check.record("no other", x, a, 0, -1, 0);
        }
        Msg.toServer(Msg.DECLINE, 1, 0).wanted(2).end().bring(x, 16);
        Check.record("of no client", x, 2, 3, -1, 100);
    }

    private static void promise20Count() {
        Subject x = new Subject();
        x.pool(0, 2, 3, 8);
        x.pool(3, 2, 3, 8);
        Scene.lease(x, 1, 0, 2);
        Scene.lease(x, 2, 0, 770);
        Check.same("records", x.count(2), 2);
        Check.same("free", x.count(4), 2);
        Scene.ticks(x, 7);
        Check.same("free at 7", x.count(4), 2);
        x.tick();
        Check.same("free at 8", x.count(4), 4);
        Check.same("records still", x.count(2), 2);
        Scene.fillRow(x, 60);
        Check.same("none is lost", x.count(1), 0);
        for (int lost = 1; lost < 4; lost++) {
            x.type(0, 1);
            x.inject(0);
            Check.same("lost", x.count(1), lost);
        }
        Check.same("the time", x.count(0), 8);
    }
}
