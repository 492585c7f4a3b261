/** Nets that several tests begin with. */
final class Nets {
    private Nets() {
    }

    /** Router 0 in the middle, 1 .. 11 around it, all of them edges with the bit of their number. */
    static BitNet star() {
        BitNet net = new BitNet();
        for (int r = 0; r < 12; r++) {
            net.edge(r, r);
        }
        for (int r = 1; r < 12; r++) {
            net.link(0, r, 1);
        }
        net.step(1000);
        return net;
    }

    /** Routers 0 .. last in a row, with weights of 1, all of them edges with the bit of their number. */
    static BitNet line(int last) {
        BitNet net = new BitNet();
        for (int r = 0; r <= last; r++) {
            net.edge(r, r);
        }
        for (int r = 0; r < last; r++) {
            net.link(r, r + 1, 1);
        }
        net.step(1000);
        return net;
    }

    /**
     * The line 0 - 1 - 2 of which 1 has unlearnt its cut link to 2 and found the way 1 - 0 - 2,
     * while 0 has not heard of it: what goes to 2 goes to and fro between 0 and 1.
     */
    static BitNet loop() {
        BitNet net = new BitNet();
        net.edge(2, 2);
        net.link(0, 1, 1);
        net.link(1, 2, 1);
        net.link(0, 2, 9);
        net.step(1000);
        net.cut(1, 2);
        net.notice(1, 2);
        return net;
    }
}
