import java.util.function.IntConsumer;

/**
 * The numbers that the document bounds, each just inside and just outside, and that a call with one
 * outside changes nothing.
 */
final class RangeTest {
    private static final int LOWEST = Integer.MIN_VALUE;
    private static final int HIGHEST = Integer.MAX_VALUE;

    private static final Twins BUSY = new Twins(Nets::busy);

    private RangeTest() {
    }

    public static void main(String[] args) {
        firstAndLastRouter();
        noSuchRouter();
        noSuchRouterToLookAt();
        noSuchRouterAsEdge();
        firstAndLastBit();
        noSuchBit();
        anyBitsMayBeSent();
        leastAndMostWeight();
        noSuchWeight();
        firstAndLastGroup();
        noSuchGroup();
        fewestAndMostSteps();
        noSuchNumberOfSteps();
        fewestAndMostNotes();
        noSuchNumberOfNotes();
        fewestAndMostCopies();
        noSuchNumberOfCopies();
        noSuchChange();
        receiversUpTo100();
        receiversDownTo0();
        firstAndLastPacket();
        noSuchPacket();
        noSuchCount();
        Check.end();
    }

    private static void forEach(int[] numbers, IntConsumer body) {
        for (int number : numbers) {
            body.accept(number);
        }
    }

    // "ROUTERS are 0 .. 11."
    private static void firstAndLastRouter() {
        BitNet net = new BitNet();
        net.edge(0, 5);
        net.edge(11, 6);
        net.link(11, 0, 4);
        Check.same("step", net.step(1000), 2);
        Check.same("mask(0, 11)", net.mask(0, 11), 1 << 6);
        Check.same("mask(11, 0)", net.mask(11, 0), 1 << 5);
        Check.same("distance(0, 11)", net.distance(0, 11), 4);
        Check.same("distance(11, 0)", net.distance(11, 0), 4);
        Check.same("alternate(0, 11)", net.alternate(0, 11), -1);
        Check.same("alternate(11, 0)", net.alternate(11, 0), -1);
        Check.same("stored(0, 11)", net.stored(0, 11), 1);
        Check.same("stored(11, 0)", net.stored(11, 0), 1);
        net.ingress(0, 0);
        net.ingress(1, 11);
        Check.same("join(0, 1, 1)", net.join(0, 1, 1), 1);
        Check.same("join(11, 0, 1)", net.join(11, 0, 1), 1);
        net.report(0);
        net.report(11);
        Check.same("carry", net.carry(1000), 6);
        Check.same("send(0, 0)", net.send(0, 0), 1);
        Check.same("send(11, 1)", net.send(11, 1), 2);
        Check.same("sendBits(0, 64)", net.sendBits(0, 64), 3);
        Check.same("sendBits(11, 32)", net.sendBits(11, 32), 4);
        Check.same("move", net.move(1000), 4);
        Check.same("delivered", net.count(4), 4);
        net.cut(0, 11);
        net.notice(0, 11);
        net.notice(11, 0);
        net.link(0, 11, 3);
        net.cut(11, 0);
    }

    private static void noSuchRouter() {
        forEach(new int[] {-1, 12, LOWEST, HIGHEST}, bad -> {
            BUSY.illegalArgument("edge(" + bad + ", 20)", net -> net.edge(bad, 20));
            BUSY.illegalArgument("link(" + bad + ", 7, 1)", net -> net.link(bad, 7, 1));
            BUSY.illegalArgument("link(7, " + bad + ", 1)", net -> net.link(7, bad, 1));
            BUSY.illegalArgument("cut(" + bad + ", 1)", net -> net.cut(bad, 1));
            BUSY.illegalArgument("cut(1, " + bad + ")", net -> net.cut(1, bad));
            BUSY.illegalArgument("notice(" + bad + ", 2)", net -> net.notice(bad, 2));
            BUSY.illegalArgument("notice(2, " + bad + ")", net -> net.notice(2, bad));
            BUSY.illegalArgument("sendBits(" + bad + ", 1)", net -> net.sendBits(bad, 1));
            BUSY.illegalArgument("sendBits(" + bad + ", 0)", net -> net.sendBits(bad, 0));
        });
    }

    private static void noSuchRouterToLookAt() {
        forEach(new int[] {-1, 12, LOWEST, HIGHEST}, bad -> {
            BUSY.illegalArgument("mask(" + bad + ", 1)", net -> net.mask(bad, 1));
            BUSY.illegalArgument("mask(1, " + bad + ")", net -> net.mask(1, bad));
            BUSY.illegalArgument("distance(" + bad + ", 1)", net -> net.distance(bad, 1));
            BUSY.illegalArgument("distance(1, " + bad + ")", net -> net.distance(1, bad));
            BUSY.illegalArgument("alternate(" + bad + ", 1)", net -> net.alternate(bad, 1));
            BUSY.illegalArgument("alternate(1, " + bad + ")", net -> net.alternate(1, bad));
            BUSY.illegalArgument("alternate, twice " + bad, net -> net.alternate(bad, bad));
            BUSY.illegalArgument("stored(" + bad + ", 1)", net -> net.stored(bad, 1));
            BUSY.illegalArgument("stored(1, " + bad + ")", net -> net.stored(1, bad));
        });
    }

    private static void noSuchRouterAsEdge() {
        forEach(new int[] {-1, 12, LOWEST, HIGHEST}, bad -> {
            BUSY.illegalArgument("ingress(5, " + bad + ")", net -> net.ingress(5, bad));
            BUSY.illegalArgument("join(" + bad + ", 0, 1)", net -> net.join(bad, 0, 1));
            BUSY.illegalArgument("report(" + bad + ")", net -> net.report(bad));
            BUSY.illegalArgument("send(" + bad + ", 0)", net -> net.send(bad, 0));
            BUSY.illegalArgument("send(" + bad + ", 5), no ingress", net -> net.send(bad, 5));
        });
    }

    // "... an EDGE with a BIT, 0 .. 31"
    private static void firstAndLastBit() {
        BitNet net = new BitNet();
        net.edge(4, 0);
        net.edge(5, 31);
        net.link(4, 5, 1);
        net.step(1000);
        Check.same("the first", net.mask(5, 4), 1);
        Check.same("the last", net.mask(4, 5), LOWEST);
        Check.same("all bits", net.sendBits(4, -1), 1);
        Check.same("its own is delivered", net.delivered(1), 1);
        Check.same("all but these two are lost", net.count(6), 30);
        Check.same("moved", net.move(1), 1);
        Check.same("both are delivered", net.delivered(1), LOWEST | 1);
        net.ingress(0, 4);
        net.join(5, 0, 1);
        net.carry(1);
        Check.same("heard of the last", net.bits(0), LOWEST);
        net.join(5, 0, -1);
        net.carry(1);
        Check.same("no more", net.bits(0), 0);
    }

    private static void noSuchBit() {
        // A shift by 32 is one by 0, so the bits must be refused whether or not 0 .. 31 are free.
        Twins empty = new Twins(BitNet::new);
        forEach(new int[] {-1, 32, 33, 63, -32, LOWEST, HIGHEST}, bad -> {
            BUSY.illegalArgument("edge(7, " + bad + ")", net -> net.edge(7, bad));
            empty.illegalArgument("edge(7, " + bad + ")", net -> net.edge(7, bad));
        });
    }

    // An int is a set of bits, whatever its sign; there may be no bit in it.
    private static void anyBitsMayBeSent() {
        BitNet net = Nets.line(1);
        Check.same("no bits", net.sendBits(0, 0), 1);
        Check.same("go nowhere", net.crossings(1), 0);
        Check.same("and are not delivered", net.delivered(1), 0);
        Check.same("nor lost", net.count(6), 0);
        Check.same("the last bit alone", net.sendBits(0, LOWEST), 2);
        Check.same("it is lost", net.count(6), 1);
        Check.same("all but the last bit", net.sendBits(0, HIGHEST), 3);
        Check.same("its own is delivered", net.delivered(3), 1);
        Check.same("a copy", net.crossings(3), 1);
        Check.same("lost", net.count(6), 1 + 29);
    }

    // "with a WEIGHT 1 .. 1000"
    private static void leastAndMostWeight() {
        BitNet net = new BitNet();
        net.link(0, 1, 1);
        net.link(1, 2, 1000);
        net.step(1000);
        Check.same("the least", net.distance(0, 1), 1);
        Check.same("the most", net.distance(1, 2), 1000);
        Check.same("both", net.distance(0, 2), 1001);
        BitNet longest = new BitNet();
        for (int r = 0; r < 11; r++) {
            longest.link(r, r + 1, 1000);
        }
        longest.step(1000);
        Check.same("the longest way of all", longest.distance(0, 11), 11000);
    }

    private static void noSuchWeight() {
        forEach(new int[] {0, 1001, -1, LOWEST, HIGHEST},
                bad -> BUSY.illegalArgument("link(6, 7, " + bad + ")", net -> net.link(6, 7, bad)));
    }

    // "GROUPS are 0 .. 7"
    private static void firstAndLastGroup() {
        BitNet net = Nets.line(1);
        net.ingress(0, 0);
        net.ingress(7, 0);
        Check.same("join(1, 0, 1)", net.join(1, 0, 1), 1);
        Check.same("join(1, 7, 1)", net.join(1, 7, 1), 1);
        net.carry(2);
        Check.same("bits(0)", net.bits(0), 2);
        Check.same("bits(7)", net.bits(7), 2);
        Check.same("send(0, 0)", net.send(0, 0), 1);
        Check.same("send(0, 7)", net.send(0, 7), 2);
        net.report(1);
        Check.same("a report tells of both", net.count(2), 2);
    }

    private static void noSuchGroup() {
        forEach(new int[] {-1, 8, LOWEST, HIGHEST}, bad -> {
            BUSY.illegalArgument("ingress(" + bad + ", 0)", net -> net.ingress(bad, 0));
            BUSY.illegalArgument("join(0, " + bad + ", 1)", net -> net.join(0, bad, 1));
            BUSY.illegalArgument("bits(" + bad + ")", net -> net.bits(bad));
            BUSY.illegalArgument("send(0, " + bad + ")", net -> net.send(0, bad));
        });
    }

    // step: "n isn't 1 .. 1000"
    private static void fewestAndMostSteps() {
        BitNet net = Nets.crowd(4, 110);
        int before = net.count(0);
        Check.yes("more than 1000", before > 1000);
        Check.same("step(1)", net.step(1), 1);
        Check.same("step(1000)", net.step(1000), 1000);
        Check.yes("some are left", net.count(0) > 0);
    }

    private static void noSuchNumberOfSteps() {
        forEach(new int[] {0, -1, 1001, LOWEST, HIGHEST},
                bad -> BUSY.illegalArgument("step(" + bad + ")", net -> net.step(bad)));
    }

    // carry: "n isn't 1 .. 1000 or -1"
    private static void fewestAndMostNotes() {
        BitNet net = new BitNet();
        net.edge(0, 0);
        for (int group = 0; group < 8; group++) {
            net.ingress(group, 0);
        }
        for (int n = 0; n < 126; n++) {
            net.report(0);
        }
        Check.same("notes", net.count(2), 1008);
        Check.same("carry(1)", net.carry(1), 1);
        Check.same("carry(-1)", net.carry(-1), 1);
        Check.same("notes", net.count(2), 1006);
        Check.same("carry(1000)", net.carry(1000), 1000);
        Check.same("notes", net.count(2), 6);
    }

    private static void noSuchNumberOfNotes() {
        forEach(new int[] {0, -2, 1001, LOWEST, HIGHEST},
                bad -> BUSY.illegalArgument("carry(" + bad + ")", net -> net.carry(bad)));
    }

    // move: "n isn't 1 .. 1000 or -1"
    private static void fewestAndMostCopies() {
        BitNet net = Nets.star();
        for (int n = 0; n < 92; n++) {
            net.sendBits(0, -1);
        }
        Check.same("copies", net.count(1), 1012);
        Check.same("move(1)", net.move(1), 1);
        Check.same("move(-1)", net.move(-1), 1);
        Check.same("copies", net.count(1), 1010);
        Check.same("move(1000)", net.move(1000), 1000);
        Check.same("copies", net.count(1), 10);
    }

    private static void noSuchNumberOfCopies() {
        forEach(new int[] {0, -2, 1001, LOWEST, HIGHEST},
                bad -> BUSY.illegalArgument("move(" + bad + ")", net -> net.move(bad)));
    }

    // join: "another change"; 1 and -1 are in receiversUpTo100 and receiversDownTo0.
    private static void noSuchChange() {
        forEach(new int[] {0, 2, -2, LOWEST, HIGHEST},
                bad -> BUSY.illegalArgument("join(1, 0, " + bad + ")", net -> net.join(1, 0, bad)));
    }

    // join: "there would be ... more than 100"
    private static void receiversUpTo100() {
        BitNet net = hundred();
        Check.same("one less than 100", net.join(1, 5, -1), 99);
        Check.same("100 again", net.join(1, 5, 1), 100);
        Check.same("another edge", net.join(0, 5, 1), 1);
        Check.same("another group", net.join(1, 6, 1), 1);
        new Twins(RangeTest::hundred).illegalArgument("101", full -> full.join(1, 5, 1));
    }

    private static BitNet hundred() {
        BitNet net = Nets.line(1);
        net.ingress(5, 0);
        for (int n = 1; n <= 100; n++) {
            Check.same("receivers", net.join(1, 5, 1), n);
        }
        return net;
    }

    // join: "there would be less than 0"
    private static void receiversDownTo0() {
        BitNet net = Nets.busy();
        Check.same("one less than two", net.join(1, 0, -1), 1);
        Check.same("none", net.join(1, 0, -1), 0);
        Check.illegalArgument("one less than none", () -> net.join(1, 0, -1));
        Check.same("one more than none", net.join(1, 0, 1), 1);
        BUSY.illegalArgument("never a receiver", twin -> twin.join(4, 0, -1));
        BUSY.illegalArgument("no receiver any more", twin -> twin.join(3, 1, -1));
    }

    // "A packet has a number, from 1 on"
    private static void firstAndLastPacket() {
        BitNet net = Nets.busy();
        Check.same("the first", net.delivered(1), 0b10011);
        Check.same("the first", net.crossings(1), 4);
        Check.same("the last", net.delivered(3), 0);
        Check.same("the last", net.crossings(3), 1);
        Check.same("one more", net.sendBits(3, 8), 4);
        Check.same("is the last then", net.delivered(4), 8);
        Check.same("is the last then", net.crossings(4), 0);
    }

    // delivered: "there is no such packet (also below)"
    private static void noSuchPacket() {
        forEach(new int[] {0, 4, -1, LOWEST, HIGHEST}, bad -> {
            BUSY.illegalArgument("delivered(" + bad + ")", net -> net.delivered(bad));
            BUSY.illegalArgument("crossings(" + bad + ")", net -> net.crossings(bad));
        });
        BitNet none = new BitNet();
        Check.illegalArgument("no packet yet", () -> none.delivered(1));
        Check.illegalArgument("no packet yet", () -> none.crossings(1));
        none.sendBits(0, 0);
        Check.same("now there is one", none.delivered(1), 0);
        Check.same("now there is one", none.crossings(1), 0);
    }

    // count: "-1 for another what"
    private static void noSuchCount() {
        BitNet net = Nets.busy();
        for (int what = 0; what <= 7; what++) {
            Check.yes("count(" + what + ")", net.count(what) >= 0);
        }
        forEach(new int[] {-1, 8, LOWEST, HIGHEST},
                bad -> Check.same("count(" + bad + ")", net.count(bad), -1));
    }
}
