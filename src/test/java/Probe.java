/**
 * Asks a net for all that it shows, lets all that is on its way go on, and tries what may be refused;
 * what it tells of two nets is the same only if nothing tells them apart. It makes some 350 calls.
 */
final class Probe {
    private static final int[] ROUTERS = {0, 1, 2, 3, 4, 11};
    private static final int GROUPS = 4;
    private static final int PACKETS = 3;

    private final BitNet net;
    private final StringBuilder told = new StringBuilder();

    private Probe(BitNet net) {
        this.net = net;
    }

    /** One line for each call. */
    static String of(BitNet net) {
        Probe probe = new Probe(net);
        probe.lookAtAll();
        probe.carryNotes();
        probe.moveCopies();
        probe.stepMessages();
        probe.joinEverywhere();
        probe.sendEverywhere();
        probe.tryLinks();
        probe.tryEdges();
        probe.tryIngresses();
        probe.counts();
        return probe.told.toString();
    }

    /** The ten calls that tell most, for nets that have few of their 512 left. */
    static String shortly(BitNet net) {
        Probe probe = new Probe(net);
        probe.counts();
        probe.tell("stored(0, 0)", net.stored(0, 0));
        return probe.told.toString();
    }

    private interface Call {
        int run();
    }

    private void tell(String call, int answer) {
        told.append(call).append(" = ").append(answer).append('\n');
    }

    private void attempt(String call, Call body) {
        try {
            tell(call, body.run());
        } catch (RuntimeException e) {
            told.append(call).append(" throws ").append(e.getClass().getName()).append('\n');
        }
    }

    private void counts() {
        for (int what = 0; what < 8; what++) {
            tell("count(" + what + ")", net.count(what));
        }
        tell("settled()", net.settled() ? 1 : 0);
    }

    private void lookAtAll() {
        counts();
        for (int r : ROUTERS) {
            for (int other : ROUTERS) {
                tell("stored(" + r + ", " + other + ")", net.stored(r, other));
                tell("mask(" + r + ", " + other + ")", net.mask(r, other));
                tell("distance(" + r + ", " + other + ")", net.distance(r, other));
            }
        }
        packets();
        bits();
    }

    private void packets() {
        for (int packet = 1; packet <= PACKETS; packet++) {
            int at = packet;
            attempt("delivered(" + at + ")", () -> net.delivered(at));
            attempt("crossings(" + at + ")", () -> net.crossings(at));
        }
    }

    private void bits() {
        for (int group = 0; group < GROUPS; group++) {
            tell("bits(" + group + ")", net.bits(group));
        }
    }

    private void carryNotes() {
        for (int n = 0; n < 3; n++) {
            attempt("carry(1)", () -> net.carry(1));
            bits();
        }
        attempt("carry(1000)", () -> net.carry(1000));
        bits();
    }

    private void moveCopies() {
        for (int n = 0; n < 3; n++) {
            attempt("move(1)", () -> net.move(1));
            tell("count(4)", net.count(4));
        }
        attempt("move(1000)", () -> net.move(1000));
        packets();
    }

    private void stepMessages() {
        for (int n = 0; n < 3; n++) {
            attempt("step(1)", () -> net.step(1));
            tell("count(0)", net.count(0));
        }
        attempt("step(1000)", () -> net.step(1000));
        for (int r : ROUTERS) {
            for (int other : ROUTERS) {
                tell("stored(" + r + ", " + other + ")", net.stored(r, other));
                tell("distance(" + r + ", " + other + ")", net.distance(r, other));
            }
        }
    }

    private void joinEverywhere() {
        for (int r : ROUTERS) {
            for (int group = 0; group < GROUPS; group++) {
                int at = group;
                attempt("join(" + r + ", " + at + ", 1)", () -> net.join(r, at, 1));
            }
        }
        attempt("carry(1000)", () -> net.carry(1000));
        bits();
    }

    private void sendEverywhere() {
        for (int group = 0; group < GROUPS; group++) {
            int at = group;
            for (int r = 0; r < 3; r++) {
                int from = r;
                attempt("send(" + from + ", " + at + ")", () -> net.send(from, at));
            }
        }
        attempt("move(1000)", () -> net.move(1000));
        tell("count(4)", net.count(4));
    }

    private void tryLinks() {
        for (int a = 0; a < 5; a++) {
            for (int b = a + 1; b < 5; b++) {
                int from = a;
                int to = b;
                attempt("cut(" + a + ", " + b + ")", () -> done(() -> net.cut(from, to)));
                attempt("notice(" + a + ", " + b + ")", () -> done(() -> net.notice(from, to)));
                attempt("notice(" + b + ", " + a + ")", () -> done(() -> net.notice(to, from)));
                attempt("link(" + a + ", " + b + ", 1)", () -> done(() -> net.link(from, to, 1)));
            }
        }
    }

    private void tryEdges() {
        for (int r = 0; r < 12; r++) {
            int at = r;
            attempt("edge(" + r + ", " + (r + 3) + ")", () -> done(() -> net.edge(at, at + 3)));
        }
    }

    private void tryIngresses() {
        for (int group = 4; group < 8; group++) {
            int at = group;
            attempt("ingress(" + group + ", 0)", () -> done(() -> net.ingress(at, 0)));
        }
    }

    private static int done(Runnable call) {
        call.run();
        return 1;
    }
}
