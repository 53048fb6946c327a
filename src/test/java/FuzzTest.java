import java.util.NoSuchElementException;
import java.util.Random;

/**
 * Long runs of any calls with any arguments: a call throws nothing but what the document names, one
 * that throws changes nothing, and the same calls give the same answers.
 */
public final class FuzzTest {
    private static final int RUNS = 150;
    private static final int CALLS = 512;

    public static void main(String[] args) {
        for (int run = 0; run < RUNS; run++) {
            String once = play(run);
            Check.same("run " + run + " is the same again", play(run).equals(once), true);
        }
        Check.end();
    }

    private static String play(int run) {
        Random random = new Random(run);
        LeaseNet x = new LeaseNet();
        StringBuilder answers = new StringBuilder();
        for (int call = 0; call < CALLS; call++) {
            int which = random.nextInt(24);
            int a = number(random);
            int b = number(random);
            int c = number(random);
            int d = number(random);
            boolean is = random.nextBoolean();
            String before = Look.all(x);
            String answer;
            try {
                answer = call(x, which, a, b, c, d, is, random);
            } catch (NoSuchElementException | IllegalStateException | IllegalArgumentException
                    | IndexOutOfBoundsException e) {
                answer = e.getClass().getSimpleName();
                Check.same("run " + run + ": call " + call + " (" + which + ") names " + answer,
                        isNamed(which, answer), true);
                Check.same("run " + run + ": call " + call + " (" + which + ") throws and changes nothing",
                        Look.all(x).equals(before), true);
            }
            answers.append(answer).append(' ');
            bounds(run, x);
        }
        return answers.append(Look.all(x)).toString();
    }

    private static void bounds(int run, LeaseNet x) {
        Check.same("run " + run + ": at most 60 packets", x.packets() <= 60, true);
        for (int c = 0; c < 12; c++) {
            boolean uses = x.client(c, 0) >= 3 && x.client(c, 0) <= 5;
            Check.same("run " + run + ": it uses its address", x.client(c, 3), uses ? x.client(c, 1) : 0);
            Check.same("run " + run + ": an end with an address", x.client(c, 2) != 0, x.client(c, 1) != 0);
        }
    }

    private static int number(Random random) {
        switch (random.nextInt(8)) {
            case 0:
                return random.nextInt();
            case 1:
                return random.nextInt(1030) - 3;
            case 2:
                return random.nextInt(30) - 3;
            default:
                return random.nextInt(5);
        }
    }

    private static boolean isNamed(int which, String name) {
        String[] named = {"NoSuchElement IllegalArgument", "NoSuchElement IllegalState", "NoSuchElement IllegalState",
            "NoSuchElement IllegalState", "IllegalArgument", "", "", "", "NoSuchElement IndexOutOfBounds",
            "NoSuchElement", "NoSuchElement", "NoSuchElement", "IllegalArgument", "",
            "IndexOutOfBounds IllegalArgument", "IllegalArgument", "NoSuchElement IndexOutOfBounds",
            "IndexOutOfBounds", "IndexOutOfBounds"};
        return which < named.length && named[which].contains(name.replace("Exception", ""));
    }

    private static String call(LeaseNet x, int which, int a, int b, int c, int d, boolean is, Random random) {
        switch (which) {
            case 0:
                x.pool(a, b, c, 8 + d);
                return "ok";
            case 1:
                x.join(a, b);
                return "ok";
            case 2:
                x.off(a);
                return "ok";
            case 3:
                x.leave(a);
                return "ok";
            case 4:
                x.strange(a, is);
                return "ok";
            case 5:
                x.down(is && a == 0);
                return "ok";
            case 6:
                return "" + x.tick();
            case 7:
                return "" + x.packets();
            case 8:
                return "" + x.packet(a, b);
            case 9:
                return "" + x.carry(a);
            case 10:
                x.twice(a);
                return "ok";
            case 11:
                x.drop(a);
                return "ok";
            case 12:
                return "" + x.run(a);
            case 13:
                return "" + x.type(random.nextLong(), a);
            case 14:
                return "" + x.told(a);
            case 15:
                x.inject(a);
                return "ok";
            case 16:
                return "" + x.client(a, b);
            case 17:
                return "" + x.record(a, b);
            case 18:
                return "" + x.count(a);
            case 19:
                return "" + x.tick();
            case 20:
                return "" + x.run(200);
            default:
                message(x, random);
                return "ok";
        }
    }

    /** A message that is nearly right, where there is room for it. */
    private static void message(LeaseNet x, Random random) {
        while (!x.type(0, 8)) {
            x.inject(random.nextInt(12));
        }
        x.inject(16);
        int client = random.nextInt(5);
        int xid = x.client(client, 4) + random.nextInt(2);
        Msg m = random.nextBoolean() ? Msg.toServer(random.nextInt(9), xid, client)
                : Msg.toClient(random.nextInt(9), xid, client);
        m.ciaddr(number(random)).yiaddr(number(random)).giaddr(random.nextInt(3) * 256);
        m.wanted(number(random)).lease(number(random)).server(random.nextInt(3));
        if (random.nextInt(9) == 0) {
            m.raw(random.nextInt(256), random.nextInt(256));
        }
        m.end().inject(x, random.nextBoolean() ? 16 : client);
    }
}
