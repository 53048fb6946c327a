import java.util.NoSuchElementException;

/** Promises 1 to 7 and 18 as calls: what they take, what they refuse, what they set. */
public final class CallsTest {
    public static void main(String[] args) {
        newObject();
        pool();
        poolRefuses();
        join();
        off();
        leave();
        strangeRefuses();
        down();
        clientRefuses();
        Check.end();
    }

    private static Subject bound(int client) {
        Subject x = new Subject();
        x.pool(0, 2, 3, 16);
        x.join(client, 0);
        x.run(200);
        return x;
    }

    private static void newObject() {
        Subject x = new Subject();
        for (int c = 0; c < 12; c++) {
            Check.client("new", x, c, 0, 0, 0, 0, 0, 0, 0);
        }
        for (int a = 1; a < 1024; a++) {
            Check.record("new", x, a, 0, -1, 0);
        }
        Check.same("new: time", x.count(0), 0);
        Check.same("new: lost", x.count(1), 0);
        Check.same("new: records", x.count(2), 0);
        Check.same("new: up", x.count(3), 1);
        Check.same("new: free", x.count(4), 0);
        Check.same("new: packets", x.packets(), 0);
        for (int s = 0; s < 4; s++) {
            Msg.toServer(Msg.DISCOVER, 1, 0).giaddr(256 * s).end().bring(x, 16);
        }
        Check.same("new: no pool answers", x.packets(), 0);
        Subject y = new Subject();
        y.join(0, 0);
        Check.same("objects do not share clients", x.client(0, 0), 0);
    }

    private static void pool() {
        Subject x = new Subject();
        x.pool(0, 2, 250, 8);
        Check.same("whole pool", x.count(4), 249);
        x.pool(3, 7, 7, 10000);
        Check.same("and one more", x.count(4), 250);
        x.pool(0, 4, 5, 16);
        Check.same("a pool is set anew", x.count(4), 3);
        x.join(0, 0);
        x.carry(0);
        Check.packet("pool", x, 0, 0, Msg.toClient(Msg.OFFER, 1, 0).yiaddr(4).lease(16).server(1).end());
        x.pool(0, 10, 11, 20);
        Check.record("a record outside stays", x, 4, 1, 0, 8);
        Check.same("but is of no pool", x.count(4), 3);
        x.run(200);
        Check.client("wanted is out of the pool now", x, 0, 3, 10, 20, 10, 4);
        x.join(5, 3);
        x.run(200);
        Check.client("lease 10000", x, 5, 3, 775, 10000, 775, 2, 1, 3);
    }

    private static void poolRefuses() {
        Subject x = bound(0);
        int[] none = {-1, 4, 5, Integer.MIN_VALUE, Integer.MAX_VALUE};
        for (int s : none) {
            Check.fails("pool of " + s, x, NoSuchElementException.class, () -> x.pool(s, 2, 3, 8));
            Check.fails("bad pool of " + s, x, NoSuchElementException.class, () -> x.pool(s, 1, 0, 7));
        }
        int[][] bad = {{1, 3, 8}, {-5, 3, 8}, {3, 2, 8}, {2, 251, 8}, {251, 251, 8}, {2, 3, 7}, {2, 3, 10001},
            {2, 3, 0}, {2, 3, -8}, {0, 3, 8}, {Integer.MIN_VALUE, Integer.MAX_VALUE, 8}};
        for (int[] b : bad) {
            Check.fails("pool " + b[0] + " " + b[1] + " " + b[2], x, IllegalArgumentException.class,
                    () -> x.pool(0, b[0], b[1], b[2]));
        }
        x.join(1, 0);
        x.run(200);
        Check.client("the pool is as before", x, 1, 3, 3, 16, 3, 2, 1, 0);
    }

    private static void join() {
        Subject x = new Subject();
        x.join(11, 0);
        Check.packet("on subnet 0", x, 0, 16, Msg.toServer(Msg.DISCOVER, 1, 11).end());
        Check.client("on subnet 0", x, 11, 1, 0, 0, 0, 1, 1, 0);
        for (int s = 1; s < 4; s++) {
            x.join(s, s);
            Check.packet("on subnet " + s, x, s, 12 + s, Msg.toServer(Msg.DISCOVER, 1, s).end());
            Check.client("on subnet " + s, x, s, 1, 0, 0, 0, 1, 1, s);
        }
        int[] none = {-1, 12, Integer.MIN_VALUE, Integer.MAX_VALUE};
        for (int c : none) {
            Check.fails("join of " + c, x, NoSuchElementException.class, () -> x.join(c, 0));
        }
        int[] nowhere = {-1, 4, Integer.MAX_VALUE};
        for (int s : nowhere) {
            Check.fails("join at " + s, x, NoSuchElementException.class, () -> x.join(0, s));
            Check.fails("join of one that is on, at " + s, x, NoSuchElementException.class, () -> x.join(11, s));
        }
        Check.fails("join of one that is on", x, IllegalStateException.class, () -> x.join(11, 0));
        Check.fails("join of one that is on, elsewhere", x, IllegalStateException.class, () -> x.join(11, 2));
    }

    private static void off() {
        Subject x = bound(4);
        Check.client("bound", x, 4, 3, 2, 16, 2, 2, 1, 0);
        x.off(4);
        Check.client("off keeps the address", x, 4, 0, 2, 16, 0, 2, 1, 0);
        Check.same("off sends nothing", x.packets(), 0);
        Check.fails("off of one that is off", x, IllegalStateException.class, () -> x.off(4));
        Check.fails("off of -1", x, NoSuchElementException.class, () -> x.off(-1));
        Check.fails("off of 12", x, NoSuchElementException.class, () -> x.off(12));
        for (int t = 0; t < 20; t++) {
            x.tick();
        }
        Check.client("it is not lost while off", x, 4, 0, 2, 16, 0, 2, 1, 0);
        x.join(4, 1);
        Check.client("again after the end", x, 4, 1, 0, 0, 0, 3, 1, 1);
        Check.packet("again after the end", x, 0, 13, Msg.toServer(Msg.DISCOVER, 3, 4).end());
    }

    private static void leave() {
        Subject x = bound(4);
        x.tick();
        x.leave(4);
        Check.client("left", x, 4, 0, 0, 0, 0, 3, 1, 0);
        Check.packet("left", x, 0, 16, Msg.toServer(Msg.RELEASE, 3, 4).ciaddr(2).end());
        Check.same("left: packets", x.packets(), 1);
        Check.fails("leave of one that is off", x, IllegalStateException.class, () -> x.leave(4));
        Check.fails("leave of -1", x, NoSuchElementException.class, () -> x.leave(-1));
        Check.fails("leave of 12", x, NoSuchElementException.class, () -> x.leave(12));
        x.carry(0);
        Check.record("released", x, 2, 2, 4, 1);

        Subject y = new Subject();
        y.join(0, 0);
        y.leave(0);
        Check.same("without address nothing is sent", y.packets(), 1);
        Check.client("without address", y, 0, 0, 0, 0, 0, 1, 1, 0);

        Subject z = bound(4);
        z.off(4);
        z.join(4, 0);
        Check.client("rebooting", z, 4, 6, 2, 16, 0, 3, 1, 0);
        z.leave(4);
        Check.client("rebooting uses none, so it sends none", z, 4, 0, 0, 0, 0, 3, 1, 0);
        Check.same("rebooting: packets", z.packets(), 1);

        Subject far = new Subject();
        far.pool(2, 9, 9, 8);
        far.join(1, 2);
        far.run(200);
        far.leave(1);
        Check.packet("from afar to the server itself", far, 0, 16,
                Msg.toServer(Msg.RELEASE, 3, 1).ciaddr(521).end());
    }

    private static void strangeRefuses() {
        Subject x = new Subject();
        int[] bad = {0, -1, 1024, Integer.MIN_VALUE, Integer.MAX_VALUE};
        for (int a : bad) {
            Check.fails("strange " + a, x, IllegalArgumentException.class, () -> x.strange(a, true));
            Check.fails("not strange " + a, x, IllegalArgumentException.class, () -> x.strange(a, false));
        }
        x.strange(1, true);
        x.strange(1023, true);
        x.strange(256, false);
    }

    private static void down() {
        Subject x = new Subject();
        x.pool(0, 2, 3, 16);
        x.down(true);
        Check.same("down", x.count(3), 0);
        x.down(true);
        Check.same("down still", x.count(3), 0);
        x.join(0, 0);
        Check.same("the packet is carried", x.run(9), 1);
        Check.same("but not looked at", x.count(2), 0);
        x.down(false);
        Check.same("up", x.count(3), 1);
        Msg.toServer(Msg.DISCOVER, 0, 0).end().bring(x, 16);
        Check.same("no xid was kept while down", x.packets(), 1);
        x.drop(0);
        x.down(true);
        x.down(false);
        Check.record("it forgets nothing", x, 2, 1, 0, 8);
        Msg.toServer(Msg.DISCOVER, -1, 0).end().bring(x, 16);
        Check.same("nor the last xid", x.packets(), 0);
    }

    private static void clientRefuses() {
        Subject x = bound(0);
        int[] none = {-1, 12, Integer.MIN_VALUE, Integer.MAX_VALUE};
        for (int c : none) {
            Check.fails("client " + c, x, NoSuchElementException.class, () -> x.client(c, 0));
            Check.fails("client " + c + " and what 7", x, NoSuchElementException.class, () -> x.client(c, 7));
        }
        int[] bad = {-1, 7, Integer.MIN_VALUE, Integer.MAX_VALUE};
        for (int w : bad) {
            Check.fails("client what " + w, x, IndexOutOfBoundsException.class, () -> x.client(11, w));
        }
    }
}
