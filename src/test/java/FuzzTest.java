import java.util.ArrayList;
import java.util.List;
import java.util.NoSuchElementException;
import java.util.Random;

/**
 * Long runs of any calls with any arguments: a call throws nothing but what the document names, the
 * same calls give the same answers, and those that throw change nothing: without them the others
 * answer as they did.
 */
public final class FuzzTest {
    private static final int RUNS = 150;
    /** So many calls are left to look at the object, or for a step that takes several. */
    private static final int SPARE = 100;

    private final int run;
    private final List<Boolean> refused = new ArrayList<>();

    private FuzzTest(int run) {
        this.run = run;
    }

    public static void main(String[] args) {
        for (int run = 0; run < RUNS; run++) {
            new FuzzTest(run).everyWay();
        }
        Check.end();
    }

    private void everyWay() {
        String first = firstTime();
        Check.same("run " + run + " is the same again", again(false).equals(first), true);
        Check.same("run " + run + " is the same without what threw", again(true).equals(first), true);
    }

    private String firstTime() {
        Random random = new Random(run);
        Subject x = new Subject();
        StringBuilder answers = new StringBuilder();
        while (x.callsLeft() > SPARE) {
            Step step = new Step(random);
            String answer = step.on(x, random);
            boolean isRefused = answer.endsWith("Exception");
            if (isRefused) {
                Check.same("run " + run + ": " + step.which + " names " + answer, isNamed(step.which, answer), true);
            } else {
                answers.append(answer).append(' ');
            }
            refused.add(isRefused);
            bounds(x);
        }
        return answers.append(Look.all(x)).toString();
    }

    private String again(boolean withoutRefused) {
        Random random = new Random(run);
        Subject x = new Subject();
        StringBuilder answers = new StringBuilder();
        for (boolean wasRefused : refused) {
            Step step = new Step(random);
            if (wasRefused && withoutRefused) {
                continue;
            }
            String answer = step.on(x, random);
            if (!wasRefused) {
                answers.append(answer).append(' ');
            }
        }
        return answers.append(Look.all(x)).toString();
    }

    private void bounds(Subject x) {
        Look look = new Look(x);
        Check.same("run " + run + ": at most 60 packets", look.packets() <= 60, true);
        for (int c = 0; c < 12; c++) {
            int state = look.client(c, 0);
            int address = look.client(c, 1);
            boolean uses = state >= 3 && state <= 5;
            Check.same("run " + run + ": it uses its address", look.client(c, 3), uses ? address : 0);
            Check.same("run " + run + ": an end with an address", look.client(c, 2) != 0, address != 0);
        }
    }

    private static int number(Random random) {
        switch (random.nextInt(8)) {
            case 0:
                return random.nextInt();
            case 1:
                return random.nextInt(1030) - 3;
            case 2:
                return random.nextInt(30) - 3;
            default:
                return random.nextInt(5);
        }
    }

    private static boolean isNamed(int which, String name) {
        String[] named = {"NoSuchElement IllegalArgument", "NoSuchElement IllegalState", "NoSuchElement IllegalState",
            "NoSuchElement IllegalState", "IllegalArgument", "", "", "", "NoSuchElement IndexOutOfBounds",
            "NoSuchElement", "NoSuchElement", "NoSuchElement", "IllegalArgument", "",
            "IndexOutOfBounds IllegalArgument", "IllegalArgument", "NoSuchElement IndexOutOfBounds",
            "IndexOutOfBounds", "IndexOutOfBounds"};
        return which < named.length && named[which].contains(name.replace("Exception", ""));
    }

    /** One call, or a few, with what it takes. */
    private static final class Step {
        final int which;
        private final int a;
        private final int b;
        private final int c;
        private final int d;
        private final boolean is;

        Step(Random random) {
            which = random.nextInt(24);
            a = number(random);
            b = number(random);
            c = number(random);
            d = number(random);
            is = random.nextBoolean();
        }

        /** What it answered, or the name of what it threw. */
        String on(Subject x, Random random) {
            try {
                return call(x, random);
            } catch (NoSuchElementException | IllegalStateException | IllegalArgumentException
                    | IndexOutOfBoundsException e) {
                return e.getClass().getSimpleName();
            }
        }

        private String call(Subject x, Random random) {
            switch (which) {
                case 0:
                    x.pool(a, b, c, 8 + d);
                    return "ok";
                case 1:
                    x.join(a, b);
                    return "ok";
                case 2:
                    x.off(a);
                    return "ok";
                case 3:
                    x.leave(a);
                    return "ok";
                case 4:
                    x.strange(a, is);
                    return "ok";
                case 5:
                    x.down(is && a == 0);
                    return "ok";
                case 6:
                    return "" + x.tick();
                case 7:
                    return "" + x.packets();
                case 8:
                    return "" + x.packet(a, b);
                case 9:
                    return "" + x.carry(a);
                case 10:
                    x.twice(a);
                    return "ok";
                case 11:
                    x.drop(a);
                    return "ok";
                case 12:
                    return "" + x.run(a);
                case 13:
                    return "" + x.type(random.nextLong(), a);
                case 14:
                    return "" + x.told(a);
                case 15:
                    x.inject(a);
                    return "ok";
                case 16:
                    return "" + x.client(a, b);
                case 17:
                    return "" + x.record(a, b);
                case 18:
                    return "" + x.count(a);
                case 19:
                    return "" + x.tick();
                case 20:
                    return "" + x.run(200);
                default:
                    message(x, random);
                    return "ok";
            }
        }
    }

    /** A message that is nearly right, where there is room for it. */
    private static void message(Subject x, Random random) {
        while (!x.type(0, 8)) {
            x.inject(random.nextInt(12));
        }
        x.inject(16);
        int client = random.nextInt(5);
        int xid = new Look(x).client(client, 4) + random.nextInt(2);
        Msg m = random.nextBoolean() ? Msg.toServer(random.nextInt(9), xid, client)
                : Msg.toClient(random.nextInt(9), xid, client);
        m.ciaddr(number(random)).yiaddr(number(random)).giaddr(random.nextInt(3) * 256);
        m.wanted(number(random)).lease(number(random)).server(random.nextInt(3));
        if (random.nextInt(9) == 0) {
            m.raw(random.nextInt(256), random.nextInt(256));
        }
        m.end().inject(x, random.nextBoolean() ? 16 : client);
    }
}
