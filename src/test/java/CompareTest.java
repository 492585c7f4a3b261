import java.util.Random;
import java.util.function.IntSupplier;

/** Many runs of 512 calls, each with a seed of its own, in which BitNet must answer as SlowNet does. */
final class CompareTest {
    private static final int RUNS = 400;
    private static final int CALLS = 512;

    private final Random random;
    private final int run;
    private final int routers;
    private final int manner;
    private final BitNet net = new BitNet();
    private final SlowNet slow = new SlowNet();
    private int made;

    private CompareTest(int run) {
        this.run = run;
        this.random = new Random(run);
        this.routers = 2 + random.nextInt(11);
        this.manner = random.nextInt(4);
    }

    public static void main(String[] args) {
        for (int run = 1; run <= RUNS; run++) {
            new CompareTest(run).all();
        }
        Check.end();
    }

    private void all() {
        for (int r = 0; r < routers; r++) {
            int at = r;
            int bit = (r * 7 + run) % 32;
            if (random.nextInt(5) != 0) {
                compare("edge", answer(() -> net.edge(at, bit)), answer(() -> slow.edge(at, bit)));
            }
        }
        while (made < CALLS - 24) {
            call();
        }
        for (int packet = 1; packet <= 8 && made < CALLS; packet++) {
            int at = packet;
            compare("delivered", () -> net.delivered(at), () -> slow.delivered(at));
            compare("crossings", () -> net.crossings(at), () -> slow.crossings(at));
        }
        for (int what = 0; what < 8 && made < CALLS; what++) {
            int at = what;
            compare("count(" + what + ")", () -> net.count(at), () -> slow.count(at));
        }
    }

    private int router() {
        return random.nextInt(40) == 0 ? random.nextInt(15) - 2 : random.nextInt(routers);
    }

    private int group() {
        return random.nextInt(40) == 0 ? random.nextInt(11) - 2 : random.nextInt(3);
    }

    private int turns() {
        if (random.nextInt(40) == 0) {
            return random.nextInt(3) == 0 ? 1001 : -random.nextInt(3);
        }
        return manner == 0 ? 1 + random.nextInt(4)
                : random.nextInt(3) == 0 ? 1000 : 1 + random.nextInt(20);
    }

    private int weight() {
        return random.nextInt(30) == 0 ? random.nextInt(1010) - 3 : 1 + random.nextInt(4);
    }

    private void call() {
        int kind = random.nextInt(100);
        if (kind < 34) {
            linkCall(kind);
        } else if (kind < 60) {
            lookCall(kind);
        } else if (kind < 78) {
            groupCall(kind);
        } else {
            packetCall(kind);
        }
    }

    private void linkCall(int kind) {
        int a = router();
        int b = router();
        int n = turns();
        int w = weight();
        // In manner 3 nothing is stepped for long, so that messages pile up.
        boolean steps = manner != 3 || made > 400;
        if (kind < 14) {
            compare("link", answer(() -> net.link(a, b, w)), answer(() -> slow.link(a, b, w)));
        } else if (kind < 18) {
            compare("cut", answer(() -> net.cut(a, b)), answer(() -> slow.cut(a, b)));
        } else if (kind < 26 || !steps) {
            compare("notice", answer(() -> net.notice(a, b)), answer(() -> slow.notice(a, b)));
        } else {
            compare("step", () -> net.step(n), () -> slow.step(n));
        }
    }

    private void lookCall(int kind) {
        int r = router();
        int other = router();
        int bit = random.nextInt(34) - 1;
        int what = random.nextInt(10) - 1;
        if (kind < 40) {
            compare("mask", () -> net.mask(r, other), () -> slow.mask(r, other));
        } else if (kind < 45) {
            compare("distance", () -> net.distance(r, other), () -> slow.distance(r, other));
        } else if (kind < 50) {
            compare("alternate", () -> net.alternate(r, other), () -> slow.alternate(r, other));
        } else if (kind < 53) {
            compare("stored", () -> net.stored(r, other), () -> slow.stored(r, other));
        } else if (kind < 56) {
            compare("settled", () -> net.settled() ? 1 : 0, () -> slow.settled() ? 1 : 0);
        } else if (kind < 57) {
            compare("edge", answer(() -> net.edge(r, bit)), answer(() -> slow.edge(r, bit)));
        } else {
            compare("count", () -> net.count(what), () -> slow.count(what));
        }
    }

    private void groupCall(int kind) {
        int edge = router();
        int group = group();
        int n = turns();
        int change = random.nextInt(30) == 0 ? 0 : random.nextInt(5) < 3 ? 1 : -1;
        if (kind < 62) {
            compare("ingress", answer(() -> net.ingress(group, edge)), answer(() -> slow.ingress(group, edge)));
        } else if (kind < 68) {
            compare("join", () -> net.join(edge, group, change), () -> slow.join(edge, group, change));
        } else if (kind < 70) {
            compare("report", answer(() -> net.report(edge)), answer(() -> slow.report(edge)));
        } else if (kind < 75) {
            int lose = random.nextInt(4) == 0 ? -1 : n;
            compare("carry", () -> net.carry(lose), () -> slow.carry(lose));
        } else {
            compare("bits", () -> net.bits(group), () -> slow.bits(group));
        }
    }

    private void packetCall(int kind) {
        int r = router();
        int group = group();
        int set = random.nextInt(3) == 0 ? -1 : random.nextInt();
        int n = turns();
        int packet = random.nextInt(40);
        if (kind < 82) {
            compare("send", () -> net.send(r, group), () -> slow.send(r, group));
        } else if (kind < 88) {
            compare("sendBits", () -> net.sendBits(r, set), () -> slow.sendBits(r, set));
        } else if (kind < 94) {
            int lose = random.nextInt(6) == 0 ? -1 : n;
            compare("move", () -> net.move(lose), () -> slow.move(lose));
        } else if (kind < 97) {
            compare("delivered", () -> net.delivered(packet), () -> slow.delivered(packet));
        } else {
            compare("crossings", () -> net.crossings(packet), () -> slow.crossings(packet));
        }
    }

    private static IntSupplier answer(Runnable call) {
        return () -> {
            call.run();
            return 0;
        };
    }

    private void compare(String call, IntSupplier fast, IntSupplier due) {
        made++;
        Check.same("run " + run + ", call " + made + ", " + call, take(fast), take(due));
    }

    /** The answer, or beyond all answers a number for each exception. */
    private static long take(IntSupplier call) {
        try {
            return call.getAsInt();
        } catch (IllegalArgumentException e) {
            return 1L << 40;
        } catch (IllegalStateException e) {
            return 1L << 41;
        }
    }
}
