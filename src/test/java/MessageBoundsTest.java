/** What the document's Terms say of a message, at its bounds, each sentence by itself. */
public final class MessageBoundsTest {
    private static final int[] BYTES = {0, 1, 127, 128, 254, 255};
    private static final int ROOM = 60;
    private static final int HEAD = 19;

    public static void main(String[] args) {
        lessThan19Bytes();
        anOpThatIsNeither();
        withoutEnd();
        whatFollowsTheEndIsNotLookedAt();
        aByte0IsNothing();
        everyCodeWithEveryLength();
        aLengthBeyondTheTape();
        cutOffByAFullTape();
        ofSeveralTheLastOne();
        aWrongLengthOfSeveral();
        hopsChaddrAndTypeAreBytes();
        numbersAreHighestFirst();
        withoutAnOption();
        brokenOnesAreNotLookedAt();
        madeOnesHaveAllElse0();
        Check.end();
    }

    private static Subject typed(Msg m) {
        Subject x = new Subject();
        m.typeOn(x);
        return x;
    }

    private static void isWhole(String what, Msg m, boolean isWhole) {
        Subject x = typed(m);
        int told = -1;
        try {
            told = x.told(0);
        } catch (IllegalArgumentException e) {
            told = -2;
        }
        Check.same(what + ": told(0)", told, isWhole ? m.at(0) : -2);
    }

    private static void tells(String what, Msg m, int which, int want) {
        isWhole(what, m, true);
        Check.same(what + ": told(" + which + ")", typed(m).told(which), want);
    }

    /** The last byte is an end, but in the first 19 it is none. */
    private static void lessThan19Bytes() {
        for (int length = 1; length <= ROOM; length++) {
            Msg m = new Msg().raw(2);
            while (m.length() < length - 1) {
                m.raw(0);
            }
            if (length > 1) {
                m.raw(255);
            }
            isWhole(length + " bytes", m, length > HEAD);
        }
        Msg whole = Msg.toServer(1, 1, 1).wanted(5).lease(6).server(7).end();
        for (int length = 1; length < whole.length(); length++) {
            Msg part = new Msg();
            for (int i = 0; i < length; i++) {
                part.raw(whole.at(i));
            }
            isWhole("the first " + length, part, false);
        }
        isWhole("all", whole, true);
    }

    private static void anOpThatIsNeither() {
        for (int op = 0; op < 256; op++) {
            isWhole("op " + op, Msg.head(op, 1, 1).raw(53, 1, 1).end(), op == 1 || op == 2);
        }
    }

    private static void withoutEnd() {
        isWhole("the head alone", Msg.head(1, 1, 1), false);
        isWhole("the end alone", Msg.head(1, 1, 1).end(), true);
        isWhole("a chaddr that looks like one", Msg.head(1, 1, 255), false);
        for (int nothings = 0; nothings <= ROOM - HEAD; nothings++) {
            Msg m = Msg.head(1, 1, 1).raw(new int[nothings]);
            isWhole(nothings + " of nothing", m, false);
            if (nothings < ROOM - HEAD) {
                isWhole(nothings + " of nothing, and the end", m.end(), true);
            }
        }
        int[] values = {254, 253, 127, 128, 1};
        for (int last : values) {
            isWhole("the last byte is " + last, Msg.head(1, 1, 1).raw(53, 1, 1, last), false);
        }
    }

    private static void whatFollowsTheEndIsNotLookedAt() {
        int[] codes = {50, 51, 53, 54};
        for (int code : codes) {
            for (int length = 0; length < 6; length++) {
                Msg m = Msg.toServer(1, 1, 1).wanted(2).lease(3).server(4).end().raw(code, length, 9, 9, 9, 9);
                isWhole("code " + code + " of " + length + " behind the end", m, true);
                Subject x = typed(m);
                Check.same("its type", x.told(7), 1);
                Check.same("its wanted", x.told(8), 2);
                Check.same("its lease", x.told(9), 3);
                Check.same("its server", x.told(10), 4);
            }
        }
        tells("a second end", Msg.toServer(1, 1, 1).end().raw(53, 1, 3).end(), 7, 1);
        tells("up to the last byte", Msg.toServer(1, 1, 1).end().raw(new int[37]), 7, 1);
    }

    /** It has no length: were it read as a code, the next byte would not be one. */
    private static void aByte0IsNothing() {
        tells("before a type", Msg.head(1, 1, 1).raw(0, 53, 1, 3).end(), 7, 3);
        tells("two before a type", Msg.head(1, 1, 1).raw(0, 0, 53, 1, 3).end(), 7, 3);
        tells("between", Msg.head(1, 1, 1).raw(53, 1, 3, 0, 53, 1, 4).end(), 7, 4);
        tells("before the end", Msg.head(1, 1, 1).raw(53, 1, 3, 0).end(), 7, 3);
        tells("a type that is 0", Msg.head(1, 1, 1).raw(53, 1, 0).end(), 7, 0);
        isWhole("a length that is 0 of another", Msg.head(1, 1, 1).raw(52, 0).end(), true);
    }

    private static void everyCodeWithEveryLength() {
        for (int code = 1; code < 255; code++) {
            for (int length = 0; length <= ROOM - HEAD - 3; length++) {
                boolean fits = code == 53 ? length == 1 : code != 50 && code != 51 && code != 54 || length == 4;
                Msg m = Msg.head(1, 1, 1).raw(code, length).raw(new int[length]).end();
                isWhole("code " + code + " of length " + length, m, fits);
            }
        }
        for (int code = 1; code < 255; code++) {
            if (code < 50 || code > 54 || code == 52) {
                Msg m = Msg.toServer(7, 1, 1).wanted(8).raw(code, 4, 9, 9, 9, 9).raw(code, 1, 9).end();
                tells("code " + code + " does not count as a type", m, 7, 7);
                tells("code " + code + " does not count as wanted", m, 8, 8);
                tells("code " + code + " does not count as a lease", m, 9, 0);
                tells("code " + code + " does not count as a server", m, 10, 0);
            }
        }
    }

    /** 38 bytes of an option leave room for the end behind it; from 39 on there is none. */
    private static void aLengthBeyondTheTape() {
        int[] codes = {1, 49, 52, 55, 127, 128, 254};
        int[] four = {50, 51, 53, 54};
        for (int length = 0; length < 256; length++) {
            for (int code : codes) {
                isWhole("code " + code + " and a length " + length, ends(code, length), length <= 38);
            }
            for (int code : four) {
                isWhole("code " + code + " and a length " + length, ends(code, length), length == (code == 53 ? 1 : 4));
            }
        }
        for (int code : codes) {
            isWhole("code " + code + " as the last byte", Msg.head(1, 1, 1).raw(code), false);
            isWhole("a length as the last byte", Msg.head(1, 1, 1).raw(code, 0), false);
            isWhole("cut off", Msg.head(1, 1, 1).raw(code, 1), false);
            isWhole("the end as its byte", Msg.head(1, 1, 1).raw(code, 1, 255), false);
            isWhole("and the end", Msg.head(1, 1, 1).raw(code, 1, 255, 255), true);
        }
    }

    /** Of an option so many bytes are there, the last ones of a tape that takes no more. */
    private static void cutOffByAFullTape() {
        int[] codes = {1, 50, 51, 52, 53, 54, 254};
        for (int code : codes) {
            int length = code == 53 ? 1 : 4;
            for (int there = 1; there <= length + 2; there++) {
                Msg m = Msg.head(1, 1, 1).raw(new int[ROOM - HEAD - there]).raw(code);
                for (int i = 1; i < there; i++) {
                    m.raw(i == 1 ? length : 7);
                }
                Check.same("it is full", m.length(), ROOM);
                isWhole(there + " bytes of code " + code, m, false);
                Subject x = new Subject();
                m.inject(x, 13);
                Check.same("it is carried", x.carry(0), 13);
                Check.same("but not looked at", x.packets(), 0);
            }
            Msg m = Msg.head(1, 1, 1).raw(new int[ROOM - HEAD - length - 3]).raw(code, length).raw(new int[length]);
            isWhole("code " + code + " and the end as the last byte", m.end(), true);
        }
    }

    /** A tape full of ends, of which an option of this length takes so many. */
    private static Msg ends(int code, int length) {
        Msg m = Msg.head(1, 1, 1).raw(code, length);
        while (m.length() < ROOM) {
            m.raw(255);
        }
        return m;
    }

    private static void ofSeveralTheLastOne() {
        for (int first : BYTES) {
            for (int last : BYTES) {
                tells("type " + first + ", " + last, Msg.head(1, 1, 1).raw(53, 1, first, 53, 1, last).end(), 7, last);
                tells("wanted " + first + ", " + last, Msg.head(1, 1, 1).wanted(first).wanted(last).end(), 8, last);
                tells("lease " + first + ", " + last, Msg.head(1, 1, 1).lease(first).lease(last).end(), 9, last);
                tells("server " + first + ", " + last, Msg.head(1, 1, 1).server(first).server(last).end(), 10, last);
            }
        }
        Msg six = Msg.head(1, 1, 1).server(1).server(2).server(3).server(4).server(5).server(6).end();
        tells("of six", six, 10, 6);
        Msg mixed = Msg.head(1, 1, 1).wanted(1).lease(2).raw(1, 1, 1).wanted(3).server(4).lease(5).end();
        tells("mixed: wanted", mixed, 8, 3);
        tells("mixed: lease", mixed, 9, 5);
        tells("mixed: server", mixed, 10, 4);
        Subject x = new Subject();
        x.pool(0, 2, 9, 16);
        Msg.head(1, 1, 1).raw(53, 1, 3, 53, 1, 1).wanted(5).wanted(7).end().bring(x, 16);
        Check.record("for the server too", x, 7, 1, 1, 8);
    }

    private static void aWrongLengthOfSeveral() {
        int[] codes = {50, 51, 53, 54};
        for (int code : codes) {
            int right = code == 53 ? 1 : 4;
            for (int wrong = 0; wrong < 7; wrong++) {
                Msg first = Msg.head(1, 1, 1).raw(code, wrong).raw(new int[wrong]);
                first.raw(code, right).raw(new int[right]).end();
                isWhole("code " + code + " first of " + wrong, first, wrong == right);
                Msg last = Msg.head(1, 1, 1).raw(code, right).raw(new int[right]);
                last.raw(code, wrong).raw(new int[wrong]).end();
                isWhole("code " + code + " last of " + wrong, last, wrong == right);
            }
        }
    }

    private static void hopsChaddrAndTypeAreBytes() {
        for (int b = 0; b < 256; b++) {
            tells("hops " + b, Msg.head(1, 1, 1).hops(b).end(), 1, b);
            tells("chaddr " + b, Msg.head(1, 1, b).end(), 6, b);
            tells("type " + b, Msg.head(1, 1, 1).raw(53, 1, b).end(), 7, b);
        }
    }

    private static void numbersAreHighestFirst() {
        for (int a : BYTES) {
            for (int b : BYTES) {
                for (int c : BYTES) {
                    for (int d : BYTES) {
                        number((int) (((a * 256L + b) * 256L + c) * 256L + d));
                    }
                }
            }
        }
        number(Integer.MIN_VALUE);
        number(Integer.MAX_VALUE);
    }

    private static void number(int n) {
        tells("xid " + n, Msg.head(1, n, 1).end(), 2, n);
        tells("ciaddr " + n, Msg.head(1, 1, 1).ciaddr(n).end(), 3, n);
        tells("yiaddr " + n, Msg.head(1, 1, 1).yiaddr(n).end(), 4, n);
        tells("giaddr " + n, Msg.head(1, 1, 1).giaddr(n).end(), 5, n);
        tells("wanted " + n, Msg.head(1, 1, 1).wanted(n).end(), 8, n);
        tells("lease " + n, Msg.head(1, 1, 1).lease(n).end(), 9, n);
        tells("server " + n, Msg.head(1, 1, 1).server(n).end(), 10, n);
    }

    private static void withoutAnOption() {
        Msg bare = Msg.head(2, -1, 255).ciaddr(-1).yiaddr(-1).giaddr(-1).end();
        tells("without type", bare, 7, -1);
        tells("without wanted", bare, 8, 0);
        tells("without lease", bare, 9, 0);
        tells("without server", bare, 10, 0);
        Subject x = new Subject();
        Msg.toServer(3, 1, 1).wanted(5).lease(6).server(7).end().typeOn(x);
        Check.same("all are told", x.told(7) + x.told(8) + x.told(9) + x.told(10), 21);
        x.inject(0);
        Msg.head(1, 1, 1).end().typeOn(x);
        Check.same("nothing is left of the tape before: type", x.told(7), -1);
        Check.same("wanted", x.told(8), 0);
        Check.same("lease", x.told(9), 0);
        Check.same("server", x.told(10), 0);
    }

    /** At each kind of place a whole message does something, and each way to break it does nothing. */
    private static void brokenOnesAreNotLookedAt() {
        for (int way = 0; way < 8; way++) {
            Subject server = new Subject();
            server.pool(0, 2, 9, 16);
            comes("server, way " + way, server, 16, Scene.discover(1, 3), way);
            comes("relay, way " + way, new Subject(), 14, Scene.discover(1, 3), way);
            comes("relay back, way " + way, new Subject(), 13, Msg.toClient(Msg.NAK, 1, 3), way);
            comes("client, way " + way, Scene.requesting(3, 0, 5), 3, Msg.toClient(Msg.NAK, 2, 3), way);
        }
    }

    private static void comes(String what, Subject x, int place, Msg m, int way) {
        String before = Look.all(x);
        broken(m, way).inject(x, place);
        Check.same(what + " is carried", x.carry(0), place);
        Check.same(what + " does something", !Look.all(x).equals(before), way == 0);
        Check.same(what + ": nothing is lost", x.count(1), 0);
    }

    /** Way 0 does not break it. */
    private static Msg broken(Msg m, int way) {
        switch (way) {
            case 0:
                return m.end();
            case 1:
                return m;
            case 2:
                return m.raw(50, 3, 0, 0, 0).end();
            case 3:
                return m.raw(53, 0).end();
            case 4:
                return m.raw(51, 5, 0, 0, 0, 0, 0).end();
            case 5:
                return m.raw(54, 0).end();
            case 6:
                return m.raw(9, 1).end();
            default:
                return withOp(m.end(), m.at(0) + 2);
        }
    }

    private static Msg withOp(Msg m, int op) {
        Msg other = new Msg().raw(op);
        for (int i = 1; i < m.length(); i++) {
            other.raw(m.at(i));
        }
        return other;
    }

    /** "One that is made has all else 0, and options in this order", whatever stood in the one before. */
    private static void madeOnesHaveAllElse0() {
        int[] numbers = {0x007F80FF, 0xFF807F00, 1, -1, 255, 256, Integer.MIN_VALUE, Integer.MAX_VALUE};
        for (int n : numbers) {
            Subject x = Scene.selecting(3, 0);
            Msg.toClient(Msg.OFFER, 1, 3).hops(255).ciaddr(-1).yiaddr(n).giaddr(-1).wanted(-1).lease(-1).server(n)
                    .end().bring(x, 3);
            Check.packet("REQUEST of " + n, x, 0, 16, Scene.request(2, 3).wanted(n).server(n).end());
            x.drop(0);
            Msg.toClient(Msg.ACK, 2, 3).hops(255).ciaddr(-1).yiaddr(n).giaddr(-1).wanted(-1).lease(2).server(n)
                    .end().bring(x, 3);
            x.tick();
            Check.packet("REQUEST with ciaddr " + n, x, 0, 16, Scene.request(3, 3).ciaddr(n).end());
            x.drop(0);
            x.leave(3);
            Check.packet("RELEASE of " + n, x, 0, 16, Msg.toServer(Msg.RELEASE, 4, 3).ciaddr(n).end());
        }
        Subject y = new Subject();
        y.pool(2, 2, 9, 0x1234);
        Scene.discover(-1, 3).hops(255).ciaddr(-1).yiaddr(-1).giaddr(0x2FF).wanted(-1).lease(-1).server(-1).end()
                .bring(y, 16);
        Check.packet("OFFER", y, 0, 14, Msg.toClient(Msg.OFFER, -1, 3).yiaddr(514).giaddr(0x2FF).lease(0x1234)
                .server(1).end());
        Scene.request(-1, 3).hops(255).ciaddr(-1).yiaddr(-1).giaddr(0x2FF).wanted(514).lease(-1).server(1).end()
                .bring(y, 16);
        Check.packet("ACK", y, 1, 14, Msg.toClient(Msg.ACK, -1, 3).yiaddr(514).giaddr(0x2FF).lease(0x1234)
                .server(1).end());
        Scene.request(-1, 3).hops(255).ciaddr(-1).yiaddr(-1).giaddr(0x2FF).wanted(-1).lease(-1).server(1).end()
                .bring(y, 16);
        Check.packet("NAK", y, 2, 14, Msg.toClient(Msg.NAK, -1, 3).giaddr(0x2FF).server(1).end());
    }
}
