/** Objects brought into a situation by calls alone, for tests that begin there. */
final class Scene {
    /** The client, subnet, address and server of the situations that tell no other. */
    static final int CLIENT = 3;
    static final int SUBNET = 1;
    static final int ADDRESS = 300;
    static final int OFFERER = 77;
    static final int LEASE = 40;

    private Scene() {
    }

    static void ticks(Subject x, int n) {
        for (int t = 0; t < n; t++) {
            x.tick();
        }
    }

    /** All packets are dropped: what is sent next is packet 0. */
    static void clear(Subject x) {
        for (int left = new Look(x).packets(); left > 0; left--) {
            x.drop(0);
        }
    }

    static Msg discover(int xid, int client) {
        return Msg.toServer(Msg.DISCOVER, xid, client);
    }

    static Msg request(int xid, int client) {
        return Msg.toServer(Msg.REQUEST, xid, client);
    }

    static Msg offered(int xid, int client, int address, int server) {
        return Msg.toClient(Msg.OFFER, xid, client).yiaddr(address).server(server).end();
    }

    static Msg acked(int xid, int client, int address, int lease) {
        return Msg.toClient(Msg.ACK, xid, client).yiaddr(address).lease(lease).end();
    }

    static Msg naked(int xid, int client) {
        return Msg.toClient(Msg.NAK, xid, client).end();
    }

    static Subject selecting(int client, int subnet) {
        Subject x = new Subject();
        x.join(client, subnet);
        clear(x);
        return x;
    }

    static Subject requesting(int client, int subnet, int address) {
        Subject x = selecting(client, subnet);
        offered(1, client, address, OFFERER).bring(x, client);
        clear(x);
        return x;
    }

    static Subject bound(int client, int subnet, int address, int lease) {
        Subject x = requesting(client, subnet, address);
        acked(2, client, address, lease).bring(x, client);
        return x;
    }

    /** One client in this state, the others off; no packet is under way. */
    static Subject inState(int state) {
        switch (state) {
            case 0:
                return new Subject();
            case 1:
                return selecting(CLIENT, SUBNET);
            case 2:
                return requesting(CLIENT, SUBNET, ADDRESS);
            case 3:
                return bound(CLIENT, SUBNET, ADDRESS, LEASE);
            case 4:
                return boundFor(LEASE / 2);
            case 5:
                return boundFor(LEASE - LEASE / 8);
            case 6:
                return rebooting();
            default:
                return waiting();
        }
    }

    /** Renewing or rebinding, as the time tells. */
    private static Subject boundFor(int time) {
        Subject x = bound(CLIENT, SUBNET, ADDRESS, LEASE);
        ticks(x, time);
        clear(x);
        return x;
    }

    private static Subject rebooting() {
        Subject x = bound(CLIENT, SUBNET, ADDRESS, LEASE);
        x.off(CLIENT);
        x.join(CLIENT, SUBNET);
        clear(x);
        return x;
    }

    private static Subject waiting() {
        Subject x = requesting(CLIENT, SUBNET, ADDRESS);
        x.strange(ADDRESS, true);
        acked(2, CLIENT, ADDRESS, LEASE).bring(x, CLIENT);
        x.strange(ADDRESS, false);
        clear(x);
        return x;
    }

    /** So many packets of one byte, which nobody looks at, are under way. */
    static void fillRow(Subject x, int packets) {
        for (int k = new Look(x).packets(); k < packets; k++) {
            x.type(0, 1);
            x.inject(0);
        }
    }

    /** What the server has leased to this client, with no packet left of it. */
    static void lease(Subject x, int xid, int client, int address) {
        int before = new Look(x).packets();
        int relay = address >> 8 == 0 ? 0 : (address >> 8) * 256 + 1;
        discover(xid, client).giaddr(relay).wanted(address).end().bring(x, 16);
        request(xid, client).giaddr(relay).wanted(address).server(1).end().bring(x, 16);
        Check.same("it is leased", new Look(x).record(address, 0), 2);
        Check.same("to this client", new Look(x).record(address, 1), client);
        x.drop(before);
        x.drop(before);
    }
}
