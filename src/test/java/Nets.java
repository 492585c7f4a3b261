/** Nets that several tests begin with. */
final class Nets {
    private Nets() {
    }

    /** Router 0 in the middle, 1 .. 11 around it, all of them edges with the bit of their number. */
    static BitNet star() {
        BitNet net = new BitNet();
        for (int r = 0; r < 12; r++) {
            net.edge(r, r);
        }
        for (int r = 1; r < 12; r++) {
            net.link(0, r, 1);
        }
        net.step(1000);
        return net;
    }

    /** Routers 0 .. last in a row, with weights of 1, all of them edges with the bit of their number. */
    static BitNet line(int last) {
        BitNet net = new BitNet();
        for (int r = 0; r <= last; r++) {
            net.edge(r, r);
        }
        for (int r = 0; r < last; r++) {
            net.link(r, r + 1, 1);
        }
        net.step(1000);
        return net;
    }

    /**
     * The line 0 - 1 - 2 of which 1 has unlearnt its cut link to 2 and found the way 1 - 0 - 2,
     * while 0 has not heard of it: what goes to 2 goes to and fro between 0 and 1.
     */
    static BitNet loop() {
        BitNet net = new BitNet();
        net.edge(2, 2);
        net.link(0, 1, 1);
        net.link(1, 2, 1);
        net.link(0, 2, 9);
        net.step(1000);
        net.cut(1, 2);
        net.notice(1, 2);
        return net;
    }

    /**
     * A net in the midst of it all. The links 0-1, 1-2, 3-4, 4-11 and 1-3 are whole, 2-3 is cut, 0-4
     * is cut and unlearnt by 0 alone, and 0-2 is gone. The edges are 0 .. 4 with the bits of their
     * numbers, and 11 with 31. Group 0 has the ingress 0, two receivers behind 1 and one behind 2;
     * group 1 the ingress 1, and no receiver any more, but two notes on their way; group 2 the
     * ingress 11 and a receiver behind 3, with no note on its way; group 3 has no ingress, but a
     * receiver behind 0. Three packets, messages, copies and notes are on their way.
     */
    static BitNet busy() {
        BitNet net = line(4);
        net.edge(11, 31);
        net.link(4, 11, 2);
        net.link(0, 4, 3);
        net.link(0, 2, 5);
        net.step(1000);
        net.ingress(0, 0);
        net.ingress(1, 1);
        net.ingress(2, 11);
        net.join(3, 2, 1);
        net.join(1, 0, 1);
        net.carry(2);
        net.join(1, 0, 1);
        net.join(2, 0, 1);
        net.join(3, 1, 1);
        net.join(3, 1, -1);
        net.join(0, 3, 1);
        net.sendBits(0, -1);
        net.sendBits(2, 0b11011 | 1 << 31);
        net.move(2);
        net.send(0, 0);
        net.cut(2, 3);
        net.cut(0, 4);
        net.notice(0, 4);
        net.cut(0, 2);
        net.notice(0, 2);
        net.notice(2, 0);
        net.link(1, 3, 7);
        net.step(2);
        return net;
    }

    /** Cuts and unlearns a link, and makes it anew: four calls. */
    static void anew(BitNet net, int a, int b) {
        net.cut(a, b);
        net.notice(a, b);
        net.notice(b, a);
        net.link(a, b, 1);
    }

    /**
     * Messages that pile up in a full mesh of some routers, whose link of 0 and 1 is made anew some
     * times. None of them has been carried; those that are will be sent on to many.
     */
    static BitNet crowd(int routers, int times) {
        BitNet net = new BitNet();
        for (int a = 0; a < routers; a++) {
            for (int b = a + 1; b < routers; b++) {
                net.link(a, b, 1);
            }
        }
        for (int n = 0; n < times; n++) {
            anew(net, 0, 1);
        }
        return net;
    }
}
