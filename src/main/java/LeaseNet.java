import java.util.Arrays;
import java.util.NoSuchElementException;

/**
 * A server that lends out addresses for a time, clients that ask for them, and relays between,
 * over a net whose packets the caller carries, repeats or drops.
 */
public final class LeaseNet {
    private static final int CLIENTS = 12;
    private static final int SUBNETS = 4;
    private static final int ADDRESSES = 1024;

    private static final int ROW_LIMIT = 60;
    private static final int BYTE_LIMIT = 60;
    private static final int RUN_LIMIT = 200;

    private static final int SERVER_PLACE = 16;
    /** The relay of subnet s is at this place + s; the place itself is nobody's. */
    private static final int RELAY_PLACE = 12;
    private static final int SERVER_ADDRESS = 1;
    private static final int HOPS_LIMIT = 4;

    private static final int TO_SERVER = 1;
    private static final int TO_CLIENTS = 2;

    private static final int DISCOVER = 1;
    private static final int OFFER = 2;
    private static final int REQUEST = 3;
    private static final int DECLINE = 4;
    private static final int ACK = 5;
    private static final int NAK = 6;
    private static final int RELEASE = 7;

    private static final int LOWEST_HOST = 2;
    private static final int HIGHEST_HOST = 250;
    private static final int SHORTEST_LEASE = 8;
    private static final int LONGEST_LEASE = 10000;

    private final Net net;
    private final Server server;
    private final Client[] clients;
    private final boolean[] strangers;
    private final Packet tape;
    private final Message heard;

    public LeaseNet() {
        net = new Net();
        server = new Server();
        clients = new Client[CLIENTS];
        for (int c = 0; c < CLIENTS; c++) {
            clients[c] = new Client(c);
        }
        strangers = new boolean[ADDRESSES];
        tape = new Packet();
        heard = new Message();
    }

    public void pool(int subnet, int low, int high, int lease)
            throws NoSuchElementException, IllegalArgumentException {
        if (!isSubnet(subnet)) {
            throw new NoSuchElementException("no such subnet");
        }
        if (low < LOWEST_HOST || low > high || high > HIGHEST_HOST) {
            throw new IllegalArgumentException("hosts are not 2 <= low <= high <= 250");
        }
        if (lease < SHORTEST_LEASE || lease > LONGEST_LEASE) {
            throw new IllegalArgumentException("lease is not 8 .. 10000");
        }
        server.setPool(subnet, low, high, lease);
    }

    public void join(int client, int subnet) throws NoSuchElementException, IllegalStateException {
        if (!isClient(client) || !isSubnet(subnet)) {
            throw new NoSuchElementException("no such client or subnet");
        }
        if (clients[client].state != Client.OFF) {
            throw new IllegalStateException("client is not off");
        }
        clients[client].subnet = subnet;
        clients[client].comeAgain(net);
    }

    public void off(int client) throws NoSuchElementException, IllegalStateException {
        if (!isClient(client)) {
            throw new NoSuchElementException("no such client");
        }
        if (clients[client].state == Client.OFF) {
            throw new IllegalStateException("client is off");
        }
        clients[client].state = Client.OFF;
    }

    public void leave(int client) throws NoSuchElementException, IllegalStateException {
        if (!isClient(client)) {
            throw new NoSuchElementException("no such client");
        }
        if (clients[client].state == Client.OFF) {
            throw new IllegalStateException("client is off");
        }
        clients[client].giveBack(net);
    }

    public void strange(int address, boolean is) throws IllegalArgumentException {
        if (!isAddress(address)) {
            throw new IllegalArgumentException("address is not 1 .. 1023");
        }
        strangers[address] = is;
    }

    public void down(boolean is) {
        server.isDown = is;
    }

    public int tick() {
        net.now++;
        for (int c = 0; c < CLIENTS; c++) {
            clients[c].feelTime(net);
        }
        return net.now;
    }

    public int packets() {
        return net.size;
    }

    public int packet(int k, int i) throws NoSuchElementException, IndexOutOfBoundsException {
        if (!net.has(k)) {
            throw new NoSuchElementException("no such packet");
        }
        Packet p = net.row[k];
        if (i == -1) {
            return p.place;
        }
        if (i == -2) {
            return p.length;
        }
        if (i < 0 || i >= p.length) {
            throw new IndexOutOfBoundsException("no such byte");
        }
        return p.byteAt(i);
    }

    public int carry(int k) throws NoSuchElementException {
        if (!net.has(k)) {
            throw new NoSuchElementException("no such packet");
        }
        net.take(k);
        arrive(net.hand);
        return net.hand.place;
    }

    public void twice(int k) throws NoSuchElementException {
        if (!net.has(k)) {
            throw new NoSuchElementException("no such packet");
        }
        net.repeat(k);
        arrive(net.hand);
    }

    public void drop(int k) throws NoSuchElementException {
        if (!net.has(k)) {
            throw new NoSuchElementException("no such packet");
        }
        net.take(k);
    }

    public int run(int n) throws IllegalArgumentException {
        if (n < 0 || n > RUN_LIMIT) {
            throw new IllegalArgumentException("n is not 0 .. 200");
        }
        int carried = 0;
        while (carried < n && net.has(0)) {
            net.take(0);
            arrive(net.hand);
            carried++;
        }
        return carried;
    }

    public boolean type(long w, int n) {
        if (n < 1 || n > 8 || tape.length + n > BYTE_LIMIT) {
            return false;
        }
        for (int i = 0; i < n; i++) {
            tape.add((int) (w >> (8 * i)));
        }
        return true;
    }

    public int told(int what) throws IndexOutOfBoundsException, IllegalArgumentException {
        if (what < 0 || what > 10) {
            throw new IndexOutOfBoundsException("what is not 0 .. 10");
        }
        if (!heard.read(tape)) {
            throw new IllegalArgumentException("the tape is broken");
        }
        return heard.part(what);
    }

    public void inject(int place) throws IllegalArgumentException {
        if (place < 0 || place > SERVER_PLACE || place == RELAY_PLACE) {
            throw new IllegalArgumentException("no such place");
        }
        if (tape.length == 0) {
            throw new IllegalArgumentException("the tape is empty");
        }
        net.pass(tape, place);
        tape.length = 0;
    }

    public int client(int client, int what) throws NoSuchElementException, IndexOutOfBoundsException {
        if (!isClient(client)) {
            throw new NoSuchElementException("no such client");
        }
        if (what < 0 || what > 6) {
            throw new IndexOutOfBoundsException("what is not 0 .. 6");
        }
        return clients[client].part(what);
    }

    public int record(int address, int what) throws IndexOutOfBoundsException {
        if (!isAddress(address)) {
            throw new IndexOutOfBoundsException("address is not 1 .. 1023");
        }
        switch (what) {
            case 0:
                return server.records.stateOf(address);
            case 1:
                return server.records.holderOf(address);
            case 2:
                return server.records.untilOf(address);
            default:
                throw new IndexOutOfBoundsException("what is not 0 .. 2");
        }
    }

    public int count(int what) throws IndexOutOfBoundsException {
        switch (what) {
            case 0:
                return net.now;
            case 1:
                return net.lost;
            case 2:
                return server.records.size;
            case 3:
                return server.isDown ? 0 : 1;
            case 4:
                return server.freeAddresses(net.now);
            default:
                throw new IndexOutOfBoundsException("what is not 0 .. 4");
        }
    }

    private static boolean isClient(int number) {
        return number >= 0 && number < CLIENTS;
    }

    private static boolean isSubnet(int number) {
        return number >= 0 && number < SUBNETS;
    }

    private static boolean isAddress(int number) {
        return number >= 1 && number < ADDRESSES;
    }

    private static int subnetOf(int number) {
        return number >> 8;
    }

    private void arrive(Packet p) {
        if (!heard.read(p)) {
            return;
        }
        if (isClient(p.place)) {
            boolean isStrange = isAddress(heard.yiaddr) && strangers[heard.yiaddr];
            clients[p.place].hear(heard, isStrange, net);
        } else if (p.place == SERVER_PLACE) {
            server.hear(heard, net);
        } else {
            relay(p);
        }
    }

    /** The bytes go on as they came, so that options which do not count are not lost on the way. */
    private void relay(Packet p) {
        if (heard.op == TO_CLIENTS) {
            if (isClient(heard.chaddr)) {
                net.pass(p, heard.chaddr);
            }
        } else if (heard.hops < HOPS_LIMIT) {
            p.setByte(Message.HOPS_AT, heard.hops + 1);
            if (heard.giaddr == 0) {
                p.setNumber(Message.GIADDR_AT, 256 * (p.place - RELAY_PLACE) + 1);
            }
            net.pass(p, SERVER_PLACE);
        }
    }

    /** Bytes with a place to go to; the tape is one too, whose place is not used. */
    private static final class Packet {
        int place;
        int length;
        final byte[] bytes = new byte[BYTE_LIMIT];

        int byteAt(int i) {
            return i >= 0 && i < length ? bytes[i] & 255 : 0;
        }

        int numberAt(int i) {
            return byteAt(i) << 24 | byteAt(i + 1) << 16 | byteAt(i + 2) << 8 | byteAt(i + 3);
        }

        void setByte(int i, int value) {
            if (i >= 0 && i < length) {
                bytes[i] = (byte) value;
            }
        }

        void setNumber(int i, int value) {
            for (int j = 0; j < 4; j++) {
                setByte(i + j, value >> (24 - 8 * j));
            }
        }

        void add(int value) {
            if (length >= 0 && length < BYTE_LIMIT) {
                bytes[length] = (byte) value;
                length++;
            }
        }

        void addNumber(int value) {
            if (length >= 0 && length + 4 <= BYTE_LIMIT) {
                bytes[length] = (byte) (value >> 24);
                bytes[length + 1] = (byte) (value >> 16);
                bytes[length + 2] = (byte) (value >> 8);
                bytes[length + 3] = (byte) value;
                length += 4;
            }
        }

        void copyBytes(Packet other) {
            length = other.length;
            System.arraycopy(other.bytes, 0, bytes, 0, BYTE_LIMIT);
        }
    }

    private static final class Message {
        static final int HOPS_AT = 1;
        static final int XID_AT = 2;
        static final int CIADDR_AT = 6;
        static final int YIADDR_AT = 10;
        static final int GIADDR_AT = 14;
        static final int CHADDR_AT = 18;
        static final int HEAD_LENGTH = 19;

        static final int NOTHING_CODE = 0;
        static final int WANTED_CODE = 50;
        static final int LEASE_CODE = 51;
        static final int TYPE_CODE = 53;
        static final int SERVER_CODE = 54;
        static final int END_CODE = 255;

        int op;
        int hops;
        int xid;
        int ciaddr;
        int yiaddr;
        int giaddr;
        int chaddr;
        int type;
        int wanted;
        int lease;
        int server;

        void clear() {
            op = 0;
            hops = 0;
            xid = 0;
            ciaddr = 0;
            yiaddr = 0;
            giaddr = 0;
            chaddr = 0;
            type = -1;
            wanted = 0;
            lease = 0;
            server = 0;
        }

        /** False if it is broken; then the fields are of no use. */
        boolean read(Packet p) {
            clear();
            if (p.length < HEAD_LENGTH) {
                return false;
            }
            op = p.byteAt(0);
            hops = p.byteAt(HOPS_AT);
            xid = p.numberAt(XID_AT);
            ciaddr = p.numberAt(CIADDR_AT);
            yiaddr = p.numberAt(YIADDR_AT);
            giaddr = p.numberAt(GIADDR_AT);
            chaddr = p.byteAt(CHADDR_AT);
            return (op == TO_SERVER || op == TO_CLIENTS) && readOptions(p);
        }

        private boolean readOptions(Packet p) {
            int at = HEAD_LENGTH;
            while (at < p.length) {
                int code = p.byteAt(at);
                if (code == END_CODE) {
                    return true;
                }
                if (code == NOTHING_CODE) {
                    at++;
                } else {
                    int length = p.byteAt(at + 1);
                    if (!readOption(p, code, length, at + 2)) {
                        return false;
                    }
                    at += 2 + length;
                }
            }
            return false;
        }

        /** An option that is cut off reads as zeros: no end can follow it, so it is broken anyway. */
        private boolean readOption(Packet p, int code, int length, int at) {
            switch (code) {
                case TYPE_CODE:
                    type = p.byteAt(at);
                    return length == 1;
                case WANTED_CODE:
                    wanted = p.numberAt(at);
                    return length == 4;
                case LEASE_CODE:
                    lease = p.numberAt(at);
                    return length == 4;
                case SERVER_CODE:
                    server = p.numberAt(at);
                    return length == 4;
                default:
                    return true;
            }
        }

        /** No option that is named in a message made here is ever 0, so 0 stands for one not named. */
        void write(Packet p) {
            p.length = 0;
            p.add(op);
            p.add(hops);
            p.addNumber(xid);
            p.addNumber(ciaddr);
            p.addNumber(yiaddr);
            p.addNumber(giaddr);
            p.add(chaddr);
            p.add(TYPE_CODE);
            p.add(1);
            p.add(type);
            if (wanted != 0) {
                p.add(WANTED_CODE);
                p.add(4);
                p.addNumber(wanted);
            }
            if (lease != 0) {
                p.add(LEASE_CODE);
                p.add(4);
                p.addNumber(lease);
            }
            if (server != 0) {
                p.add(SERVER_CODE);
                p.add(4);
                p.addNumber(server);
            }
            p.add(END_CODE);
        }

        int part(int what) {
            switch (what) {
                case 0:
                    return op;
                case 1:
                    return hops;
                case 2:
                    return xid;
                case 3:
                    return ciaddr;
                case 4:
                    return yiaddr;
                case 5:
                    return giaddr;
                case 6:
                    return chaddr;
                case 7:
                    return type;
                case 8:
                    return wanted;
                case 9:
                    return lease;
                default:
                    return server;
            }
        }
    }

    /** The time and the row of packets under way; all its packets are made once and used again. */
    private static final class Net {
        final Packet[] row = new Packet[ROW_LIMIT];
        /** The packet that was taken last: it is out of the row, so answers to it can't overwrite it. */
        Packet hand = new Packet();
        /** A message that is being made. */
        final Message draft = new Message();
        int size;
        int lost;
        int now;

        Net() {
            for (int k = 0; k < ROW_LIMIT; k++) {
                row[k] = new Packet();
            }
        }

        boolean has(int k) {
            return k >= 0 && k < size && k < ROW_LIMIT;
        }

        void take(int k) {
            if (!has(k)) {
                return;
            }
            Packet taken = row[k];
            for (int j = k + 1; j < size; j++) {
                row[j - 1] = row[j];
            }
            size--;
            row[size] = hand;
            hand = taken;
        }

        /** The message of packet k comes to the hand, while the packet stays in the row. */
        void repeat(int k) {
            if (has(k)) {
                hand.copyBytes(row[k]);
                hand.place = row[k].place;
            }
        }

        void pass(Packet p, int place) {
            Packet end = open(place);
            if (end != null) {
                end.copyBytes(p);
            }
        }

        /** A packet at the end of the row, to be filled; if the row is full, null, and one is lost. */
        Packet open(int place) {
            if (size < 0 || size >= ROW_LIMIT) {
                lost++;
                return null;
            }
            Packet end = row[size];
            end.place = place;
            size++;
            return end;
        }
    }

    /** What the server has written down of each address. */
    private static final class Records {
        static final int OFFERED = 1;
        static final int LEASED = 2;
        static final int DECLINED = 3;
        static final int NOBODY = -1;

        private final int[] states = new int[ADDRESSES];
        private final int[] holders = new int[ADDRESSES];
        private final int[] untils = new int[ADDRESSES];
        int size;

        Records() {
            Arrays.fill(holders, NOBODY);
        }

        boolean has(int address) {
            return isAddress(address) && states[address] != 0;
        }

        boolean isOf(int address, int holder) {
            return isAddress(address) && states[address] != 0 && holders[address] == holder;
        }

        boolean isLeasedTo(int address, int holder) {
            return isOf(address, holder) && states[address] == LEASED;
        }

        boolean isFree(int address, int now) {
            return !isAddress(address) || states[address] == 0 || untils[address] <= now;
        }

        int stateOf(int address) {
            return isAddress(address) ? states[address] : 0;
        }

        int holderOf(int address) {
            return isAddress(address) ? holders[address] : NOBODY;
        }

        int untilOf(int address) {
            return isAddress(address) ? untils[address] : 0;
        }

        void put(int address, int state, int holder, int until) {
            if (!isAddress(address)) {
                return;
            }
            if (states[address] == 0) {
                size++;
            }
            states[address] = state;
            holders[address] = holder;
            untils[address] = until;
        }

        void erase(int address) {
            if (has(address)) {
                size--;
                states[address] = 0;
                holders[address] = NOBODY;
                untils[address] = 0;
            }
        }
    }

    private static final class Server {
        static final int OFFER_TIME = 8;
        static final int DECLINE_TIME = 100;
        /** What may be answered instead of an address. */
        static final int SILENCE = 0;
        static final int REFUSAL = -1;

        final Records records = new Records();
        private final int[] lows = new int[SUBNETS];
        private final int[] highs = new int[SUBNETS];
        /** 0 for a subnet without pool. */
        private final int[] leases = new int[SUBNETS];
        private final int[] lastXids = new int[CLIENTS];
        private final boolean[] heardBefore = new boolean[CLIENTS];
        boolean isDown;

        void setPool(int subnet, int low, int high, int lease) {
            if (isSubnet(subnet)) {
                lows[subnet] = 256 * subnet + low;
                highs[subnet] = 256 * subnet + high;
                leases[subnet] = lease;
            }
        }

        int freeAddresses(int now) {
            int free = 0;
            for (int s = 0; s < SUBNETS; s++) {
                for (int a = lows[s]; leases[s] != 0 && a <= highs[s]; a++) {
                    if (records.isFree(a, now)) {
                        free++;
                    }
                }
            }
            return free;
        }

        void hear(Message m, Net net) {
            if (isDown || m.op != TO_SERVER) {
                return;
            }
            int subnet = subnetOf(m.giaddr != 0 ? m.giaddr : m.ciaddr);
            if (!isSubnet(subnet) || leases[subnet] == 0 || !isNews(m)) {
                return;
            }
            switch (m.type) {
                case DISCOVER:
                    answer(m, OFFER, offer(m, subnet, net.now), subnet, net);
                    break;
                case REQUEST:
                    answer(m, ACK, request(m, subnet, net.now), subnet, net);
                    break;
                case DECLINE:
                    if (records.isOf(m.wanted, m.chaddr)) {
                        records.put(m.wanted, Records.DECLINED, Records.NOBODY, net.now + DECLINE_TIME);
                    }
                    break;
                case RELEASE:
                    if (records.isLeasedTo(m.ciaddr, m.chaddr)) {
                        records.put(m.ciaddr, Records.LEASED, m.chaddr, net.now);
                    }
                    break;
                default:
                    break;
            }
        }

        /** The net may turn messages round: one that is older than what was heard last tells nothing. */
        private boolean isNews(Message m) {
            if (!isClient(m.chaddr) || heardBefore[m.chaddr] && m.xid < lastXids[m.chaddr]) {
                return false;
            }
            heardBefore[m.chaddr] = true;
            lastXids[m.chaddr] = m.xid;
            return true;
        }

        private void answer(Message m, int type, int address, int subnet, Net net) {
            if (address == SILENCE) {
                return;
            }
            boolean isRefused = address == REFUSAL;
            Message d = net.draft;
            d.clear();
            d.op = TO_CLIENTS;
            d.xid = m.xid;
            d.yiaddr = isRefused ? 0 : address;
            d.giaddr = m.giaddr;
            d.chaddr = m.chaddr;
            d.type = isRefused ? NAK : type;
            d.lease = isRefused ? 0 : leases[subnet];
            d.server = SERVER_ADDRESS;
            int relayed = subnetOf(m.giaddr);
            Packet p = net.open(relayed == 0 ? m.chaddr : RELAY_PLACE + relayed);
            if (p != null) {
                d.write(p);
            }
        }

        private boolean inPool(int subnet, int address) {
            return isSubnet(subnet) && leases[subnet] != 0
                    && address >= lows[subnet] && address <= highs[subnet];
        }

        /** The address that is offered, or SILENCE. */
        private int offer(Message m, int subnet, int now) {
            int address = choose(m, subnet, now);
            if (address == 0) {
                return SILENCE;
            }
            if (!records.isLeasedTo(address, m.chaddr) || records.untilOf(address) <= now) {
                records.put(address, Records.OFFERED, m.chaddr, now + OFFER_TIME);
            }
            return address;
        }

        /** 0 if there is none. */
        private int choose(Message m, int subnet, int now) {
            int own = leastOf(subnet, m.chaddr);
            if (own != 0) {
                return own;
            }
            if (inPool(subnet, m.wanted) && records.isFree(m.wanted, now)) {
                return m.wanted;
            }
            int unwritten = leastWithoutRecord(subnet);
            return unwritten != 0 ? unwritten : longestFree(subnet, now);
        }

        private int leastOf(int subnet, int holder) {
            for (int a = lows[subnet]; a <= highs[subnet]; a++) {
                if (records.isOf(a, holder)) {
                    return a;
                }
            }
            return 0;
        }

        private int leastWithoutRecord(int subnet) {
            for (int a = lows[subnet]; a <= highs[subnet]; a++) {
                if (!records.has(a)) {
                    return a;
                }
            }
            return 0;
        }

        private int longestFree(int subnet, int now) {
            int best = 0;
            for (int a = lows[subnet]; a <= highs[subnet]; a++) {
                if (records.isFree(a, now) && (best == 0 || records.untilOf(a) < records.untilOf(best))) {
                    best = a;
                }
            }
            return best;
        }

        /** The address that is leased now, or SILENCE, or REFUSAL. */
        private int request(Message m, int subnet, int now) {
            if (m.server == SERVER_ADDRESS) {
                boolean isHeld = inPool(subnet, m.wanted) && records.isOf(m.wanted, m.chaddr)
                        && records.untilOf(m.wanted) > now;
                return isHeld ? lend(m.wanted, m.chaddr, now + leases[subnet]) : REFUSAL;
            }
            if (m.server != 0) {
                int own = leastOf(subnet, m.chaddr);
                if (records.stateOf(own) == Records.OFFERED) {
                    records.erase(own);
                }
                return SILENCE;
            }
            int address = m.ciaddr != 0 ? m.ciaddr : m.wanted;
            if (!inPool(subnet, address)) {
                return REFUSAL;
            }
            if (records.isOf(address, m.chaddr)) {
                return lend(address, m.chaddr, now + leases[subnet]);
            }
            return records.has(address) ? REFUSAL : SILENCE;
        }

        /** A lease that was promised for longer is not cut. */
        private int lend(int address, int holder, int until) {
            boolean wasLeased = records.stateOf(address) == Records.LEASED;
            int end = wasLeased ? Math.max(until, records.untilOf(address)) : until;
            records.put(address, Records.LEASED, holder, end);
            return address;
        }
    }

    private static final class Client {
        static final int OFF = 0;
        static final int SELECTING = 1;
        static final int REQUESTING = 2;
        static final int BOUND = 3;
        static final int RENEWING = 4;
        static final int REBINDING = 5;
        static final int REBOOTING = 6;
        static final int WAITING = 7;

        static final int LAST_TRY = 3;
        static final int WAITING_TIME = 10;

        private final int number;
        int subnet;
        int state;
        private int turn;
        private int xid;
        private int sent;
        private int address;
        private int end;
        private int renewal;
        private int rebinding;
        /** What an OFFER told, kept for the tries that follow. */
        private int offered;
        private int offerer;

        Client(int number) {
            this.number = number;
        }

        int part(int what) {
            switch (what) {
                case 0:
                    return state;
                case 1:
                    return address;
                case 2:
                    return end;
                case 3:
                    return usesAddress() ? address : 0;
                case 4:
                    return xid;
                case 5:
                    return turn;
                default:
                    return subnet;
            }
        }

        void comeAgain(Net net) {
            if (address != 0 && end > net.now) {
                enter(REBOOTING);
                ask(net);
            } else {
                begin(net);
            }
        }

        void giveBack(Net net) {
            if (usesAddress()) {
                send(SERVER_PLACE, RELEASE, address, 0, 0, net);
            }
            forgetAddress();
            state = OFF;
        }

        void hear(Message m, boolean isStrange, Net net) {
            if (m.op != TO_CLIENTS || m.chaddr != number || m.xid != xid) {
                return;
            }
            if (m.type == OFFER && state == SELECTING && m.yiaddr != 0 && m.server != 0) {
                offered = m.yiaddr;
                offerer = m.server;
                enter(REQUESTING);
                ask(net);
            } else if (m.type == ACK && awaitsAnswer()) {
                accept(m, isStrange, net);
            } else if (m.type == NAK && awaitsAnswer()) {
                begin(net);
            }
        }

        void feelTime(Net net) {
            int now = net.now;
            if ((usesAddress() || state == REBOOTING) && end <= now) {
                begin(net);
                return;
            }
            switch (state) {
                case BOUND:
                    if (renewal <= now) {
                        state = RENEWING;
                        renew(net);
                    }
                    break;
                case RENEWING:
                    if (rebinding <= now) {
                        state = REBINDING;
                        renew(net);
                    } else if (now - sent >= halfUntil(rebinding)) {
                        renew(net);
                    }
                    break;
                case REBINDING:
                    if (now - sent >= halfUntil(end)) {
                        renew(net);
                    }
                    break;
                case SELECTING:
                case REQUESTING:
                case REBOOTING:
                    if (now - sent >= patience()) {
                        tryNext(net);
                    }
                    break;
                case WAITING:
                    if (now - sent >= WAITING_TIME) {
                        begin(net);
                    }
                    break;
                default:
                    break;
            }
        }

        private boolean usesAddress() {
            return state == BOUND || state == RENEWING || state == REBINDING;
        }

        private boolean awaitsAnswer() {
            return state == REQUESTING || state == RENEWING || state == REBINDING || state == REBOOTING;
        }

        private void forgetAddress() {
            address = 0;
            end = 0;
        }

        private void begin(Net net) {
            forgetAddress();
            enter(SELECTING);
            ask(net);
        }

        private void enter(int newState) {
            state = newState;
            turn = 1;
        }

        private void accept(Message m, boolean isStrange, Net net) {
            int lease = Math.min(m.lease, LONGEST_LEASE);
            if (m.yiaddr == 0 || lease <= 0 || sent + lease <= net.now) {
                return;
            }
            if (isStrange && (state == REQUESTING || state == REBOOTING)) {
                forgetAddress();
                state = WAITING;
                send(broadcastPlace(), DECLINE, 0, m.yiaddr, 0, net);
                return;
            }
            state = BOUND;
            address = m.yiaddr;
            end = sent + lease;
            renewal = sent + lease / 2;
            rebinding = sent + lease - lease / 8;
        }

        /** Half of the time from the last message, upward, so that tries come closer to one another. */
        private int halfUntil(int time) {
            return Math.max(2, (time - sent + 1) / 2);
        }

        /** 4, 8, 16 ticks in the tries 1, 2, 3. */
        private int patience() {
            return turn <= 1 ? 4 : turn == 2 ? 8 : 16;
        }

        private void tryNext(Net net) {
            if (turn < LAST_TRY) {
                turn++;
                ask(net);
            } else if (state == SELECTING) {
                ask(net);
            } else if (state == REQUESTING) {
                begin(net);
            } else {
                state = BOUND;
            }
        }

        private int broadcastPlace() {
            return subnet == 0 ? SERVER_PLACE : RELAY_PLACE + subnet;
        }

        private void ask(Net net) {
            if (state == SELECTING) {
                send(broadcastPlace(), DISCOVER, 0, 0, 0, net);
            } else if (state == REQUESTING) {
                send(broadcastPlace(), REQUEST, 0, offered, offerer, net);
            } else {
                send(broadcastPlace(), REQUEST, 0, address, 0, net);
            }
        }

        private void renew(Net net) {
            send(state == RENEWING ? SERVER_PLACE : broadcastPlace(), REQUEST, address, 0, 0, net);
        }

        private void send(int place, int type, int ciaddr, int wanted, int server, Net net) {
            xid++;
            sent = net.now;
            Message d = net.draft;
            d.clear();
            d.op = TO_SERVER;
            d.xid = xid;
            d.ciaddr = ciaddr;
            d.chaddr = number;
            d.type = type;
            d.wanted = wanted;
            d.server = server;
            Packet p = net.open(place);
            if (p != null) {
                d.write(p);
            }
        }
    }
}
