/** Counts and prints the answers that are not the ones due. */
final class Check {
    private static int made = 0;
    private static int wrong = 0;

    private Check() {
    }

    static void same(String what, long got, long want) {
        made++;
        if (got != want) {
            wrong++;
            System.out.println(what + " answered " + got + ", due is " + want);
        }
    }

    static void same(String what, boolean got, boolean want) {
        same(what, got ? 1 : 0, want ? 1 : 0);
    }

    /** The call throws just this exception, and changes nothing that can be seen of the object. */
    static void fails(String what, Subject x, Class<? extends RuntimeException> kind, Runnable call) {
        made++;
        String before = Look.all(x);
        RuntimeException thrown = null;
        try {
            call.run();
        } catch (RuntimeException e) {
            thrown = e;
        }
        if (thrown == null || thrown.getClass() != kind) {
            wrong++;
            System.out.println(what + " threw " + thrown + ", due is " + kind.getName());
        }
        if (!Look.all(x).equals(before)) {
            wrong++;
            System.out.println(what + " threw, but changed something");
        }
    }

    /** A client's state, address, end, used address, xid, try and subnet. */
    static void client(String when, Subject x, int client, int... want) {
        Look look = new Look(x);
        for (int what = 0; what < want.length; what++) {
            same(when + ": client(" + client + ", " + what + ")", look.client(client, what), want[what]);
        }
    }

    /** A record's state, client and time. */
    static void record(String when, Subject x, int address, int state, int client, int until) {
        Look look = new Look(x);
        same(when + ": record(" + address + ", 0)", look.record(address, 0), state);
        same(when + ": record(" + address + ", 1)", look.record(address, 1), client);
        same(when + ": record(" + address + ", 2)", look.record(address, 2), until);
    }

    /** Packet k goes to the place and has just these bytes. */
    static void packet(String when, Subject x, int k, int place, Msg want) {
        Look look = new Look(x);
        if (k >= look.packets()) {
            same(when + ": there is packet " + k, false, true);
            return;
        }
        int length = look.packet(k, -2);
        same(when + ": place of packet " + k, look.packet(k, -1), place);
        same(when + ": length of packet " + k, length, want.length());
        for (int i = 0; i < Math.min(want.length(), length); i++) {
            same(when + ": byte " + i + " of packet " + k, look.packet(k, i), want.at(i));
        }
    }

    static void end() {
        System.out.println(made + " checks, " + wrong + " wrong");
        if (wrong != 0 || made == 0) {
            System.exit(1);
        }
    }
}
