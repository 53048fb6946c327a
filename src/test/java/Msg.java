import java.util.ArrayList;
import java.util.List;

/** A message, built byte by byte, to be typed or to be compared with. */
final class Msg {
    static final int DISCOVER = 1;
    static final int OFFER = 2;
    static final int REQUEST = 3;
    static final int DECLINE = 4;
    static final int ACK = 5;
    static final int NAK = 6;
    static final int RELEASE = 7;

    private final List<Integer> bytes = new ArrayList<>();

    /** A head with everything 0 but what is told. */
    static Msg head(int op, int xid, int chaddr) {
        Msg m = new Msg().raw(op, 0).number(xid);
        return m.number(0).number(0).number(0).raw(chaddr);
    }

    static Msg toServer(int type, int xid, int chaddr) {
        return head(1, xid, chaddr).raw(53, 1, type);
    }

    static Msg toClient(int type, int xid, int chaddr) {
        return head(2, xid, chaddr).raw(53, 1, type);
    }

    Msg raw(int... more) {
        for (int b : more) {
            bytes.add(b & 255);
        }
        return this;
    }

    Msg number(int value) {
        return raw(value >> 24, value >> 16, value >> 8, value);
    }

    Msg hops(int value) {
        bytes.set(1, value);
        return this;
    }

    Msg ciaddr(int value) {
        return setNumber(6, value);
    }

    Msg yiaddr(int value) {
        return setNumber(10, value);
    }

    Msg giaddr(int value) {
        return setNumber(14, value);
    }

    Msg wanted(int value) {
        return raw(50, 4).number(value);
    }

    Msg lease(int value) {
        return raw(51, 4).number(value);
    }

    Msg server(int value) {
        return raw(54, 4).number(value);
    }

    Msg end() {
        return raw(255);
    }

    int length() {
        return bytes.size();
    }

    int at(int i) {
        return bytes.get(i);
    }

    /** Eight bytes a call, so that a test stays within the calls that an object is used for. */
    void typeOn(Subject x) {
        for (int at = 0; at < length(); at += 8) {
            int n = Math.min(8, length() - at);
            long w = 0;
            for (int i = 0; i < n; i++) {
                w |= (long) at(at + i) << (8 * i);
            }
            if (!x.type(w, n)) {
                throw new AssertionError("the tape is full");
            }
        }
    }

    /** Typed and injected: the packet is the last of the row. */
    void inject(Subject x, int place) {
        typeOn(x);
        x.inject(place);
    }

    /** Injected and carried at once: its answers are the last of the row. */
    void bring(Subject x, int place) {
        inject(x, place);
        x.carry(new Look(x).packets() - 1);
    }

    private Msg setNumber(int at, int value) {
        for (int j = 0; j < 4; j++) {
            bytes.set(at + j, value >> (24 - 8 * j) & 255);
        }
        return this;
    }
}
