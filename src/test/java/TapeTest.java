/** Promises 15 to 17: the tape, and what is a message. */
public final class TapeTest {
    public static void main(String[] args) {
        type();
        typeRefuses();
        told();
        optionsThatCount();
        broken();
        toldRefuses();
        inject();
        injectRefuses();
        Check.end();
    }

    private static void type() {
        Subject x = new Subject();
        Check.same("eight", x.type(0x8877665544332211L, 8), true);
        Check.same("three of more", x.type(-1L << 24 | 0xCCBBAAL, 3), true);
        Check.same("one", x.type(0x1FFL, 1), true);
        x.inject(3);
        int[] want = {0x11, 0x22, 0x33, 0x44, 0x55, 0x66, 0x77, 0x88, 0xAA, 0xBB, 0xCC, 0xFF};
        Check.packet("the lowest first", x, 0, 3, new Msg().raw(want));
    }

    private static void typeRefuses() {
        Subject x = new Subject();
        int[] bad = {0, -1, 9, 60, Integer.MIN_VALUE, Integer.MAX_VALUE};
        for (int n : bad) {
            Check.same("type of " + n, x.type(1, n), false);
        }
        Check.fails("the tape is empty still", x, IllegalArgumentException.class, () -> x.inject(0));
        for (int j = 0; j < 7; j++) {
            Check.same("type " + j, x.type(j, 8), true);
        }
        Check.same("61 are too many", x.type(-1, 5), false);
        Check.same("8 more too", x.type(-1, 8), false);
        Check.same("60 are not", x.type(0x04030201, 4), true);
        Check.same("but then one is", x.type(9, 1), false);
        x.inject(15);
        Check.same("60 bytes", x.packet(0, -2), 60);
        Check.same("the last", x.packet(0, 59), 4);
        Check.same("the tape is new", x.type(9, 8), true);
    }

    private static void sees(String what, Msg m, int... want) {
        Subject x = new Subject();
        m.typeOn(x);
        for (int w = 0; w < 11; w++) {
            Check.same(what + ": told(" + w + ")", x.told(w), want[w]);
        }
        x.inject(0);
        Check.same(what + ": the tape stayed", x.packet(0, -2), m.length());
    }

    private static void told() {
        sees("bare", Msg.head(1, 0, 0).end(), 1, 0, 0, 0, 0, 0, 0, -1, 0, 0, 0);
        sees("all", new Msg().raw(2, 200).number(0x81020304).number(0x01020304).number(-1).number(0x7FFFFFFF)
                        .raw(250).raw(53, 1, 255).wanted(-5).lease(Integer.MIN_VALUE).server(70000).end(),
                2, 200, 0x81020304, 0x01020304, -1, 0x7FFFFFFF, 250, 255, -5, Integer.MIN_VALUE, 70000);
    }

    private static void optionsThatCount() {
        sees("the last type, wanted, lease", Msg.head(2, 1, 1).raw(53, 1, 4).wanted(1).lease(2).lease(5).wanted(4)
                .raw(53, 1, 2).end(), 2, 0, 1, 0, 0, 0, 1, 2, 4, 5, 0);
        sees("the last server", Msg.head(2, 1, 1).server(3).raw(53, 1, 4).server(6).end(),
                2, 0, 1, 0, 0, 0, 1, 4, 0, 0, 6);
        sees("a 0 that is last", Msg.head(2, 1, 1).server(3).server(0).end(), 2, 0, 1, 0, 0, 0, 1, -1, 0, 0, 0);
        sees("nothing between", Msg.head(1, 1, 1).raw(0, 0, 53, 1, 3, 0).wanted(9).raw(0).end(),
                1, 0, 1, 0, 0, 0, 1, 3, 9, 0, 0);
        sees("others do not count", Msg.head(1, 1, 1).raw(52, 1, 9, 55, 0, 254, 6, 53, 1, 7, 50, 4, 255).raw(53, 1, 1)
                .end(), 1, 0, 1, 0, 0, 0, 1, 1, 0, 0, 0);
        sees("behind the end", Msg.head(1, 1, 1).raw(53, 1, 1).end().raw(53, 1, 2, 54, 9),
                1, 0, 1, 0, 0, 0, 1, 1, 0, 0, 0);
        sees("an end in the middle of another", Msg.head(1, 1, 1).raw(1, 1, 255, 53, 1, 7, 255),
                1, 0, 1, 0, 0, 0, 1, 7, 0, 0, 0);
    }

    private static void isBroken(String what, Msg m) {
        Subject x = new Subject();
        m.typeOn(x);
        Check.fails(what, x, IllegalArgumentException.class, () -> x.told(0));
        x.pool(0, 2, 9, 16);
        x.inject(16);
        Check.same(what + " is carried", x.carry(0), 16);
        Check.same(what + " is not looked at", x.count(2), 0);
    }

    private static void broken() {
        Msg[] ends = {Msg.head(1, 1, 1), Msg.toServer(1, 1, 1), Msg.toServer(1, 1, 1).raw(0, 0),
            Msg.toServer(1, 1, 1).raw(99), Msg.toServer(1, 1, 1).raw(99, 0), Msg.toServer(1, 1, 1).raw(99, 1, 255),
            Msg.toServer(1, 1, 1).raw(99, 200).end(), Msg.toServer(1, 1, 1).raw(54, 4, 0, 0, 1).end(),
            Msg.head(1, 1, 1).raw(53), Msg.head(1, 1, 1).raw(53, 1), Msg.head(1, 1, 1).raw(53, 1, 255)};
        for (int i = 0; i < ends.length; i++) {
            isBroken("without end " + i, ends[i]);
        }
        int[] codes = {50, 51, 53, 54};
        for (int code : codes) {
            for (int length = 0; length < 7; length++) {
                if (length != (code == 53 ? 1 : 4)) {
                    isBroken("code " + code + " of length " + length,
                            Msg.toServer(1, 1, 1).raw(code, length).raw(new int[length]).end());
                }
            }
        }
        isBroken("the first of two", Msg.head(1, 1, 1).raw(53, 2, 1, 1).raw(53, 1, 1).end());
        int[] ops = {0, 3, 4, 129, 255};
        for (int op : ops) {
            isBroken("op " + op, Msg.head(op, 1, 1).raw(53, 1, 1).end());
        }
        isBroken("short", new Msg().raw(1, 0, 0, 0, 0, 0, 0, 0, 0, 0, 0, 0, 0, 0, 0, 0, 0, 255));
        isBroken("one byte", new Msg().raw(255));
    }

    private static void toldRefuses() {
        Subject x = new Subject();
        int[] bad = {-1, 11, Integer.MIN_VALUE, Integer.MAX_VALUE};
        for (int w : bad) {
            Check.fails("told " + w + " of an empty tape", x, IndexOutOfBoundsException.class, () -> x.told(w));
        }
        Check.fails("told of an empty tape", x, IllegalArgumentException.class, () -> x.told(10));
        Msg.head(1, 1, 1).end().typeOn(x);
        for (int w : bad) {
            Check.fails("told " + w, x, IndexOutOfBoundsException.class, () -> x.told(w));
        }
        Check.same("told 10", x.told(10), 0);
    }

    private static void inject() {
        Subject x = new Subject();
        int k = 0;
        for (int place = 0; place <= 16; place++) {
            if (place != 12) {
                x.type(place, 1);
                x.inject(place);
                Check.packet("inject", x, k, place, new Msg().raw(place));
                k++;
            }
        }
        Check.fails("it is taken", x, IllegalArgumentException.class, () -> x.inject(0));
    }

    private static void injectRefuses() {
        Subject x = new Subject();
        Check.fails("an empty tape", x, IllegalArgumentException.class, () -> x.inject(16));
        Msg.head(1, 7, 1).end().typeOn(x);
        int[] bad = {-1, 12, 17, Integer.MIN_VALUE, Integer.MAX_VALUE};
        for (int place : bad) {
            Check.fails("place " + place, x, IllegalArgumentException.class, () -> x.inject(place));
        }
        Check.same("the tape is there", x.told(2), 7);
    }
}
