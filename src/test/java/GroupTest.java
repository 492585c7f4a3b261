/** Promises 12 to 16: ingress, join, report, carry, bits. */
final class GroupTest {
    private GroupTest() {
    }

    public static void main(String[] args) {
        ingresses();
        ingressesThatMayNotChange();
        joins();
        joinsWithoutIngress();
        joinsWithWrongArguments();
        reports();
        carrying();
        lateNotesCount();
        tooManyNotes();
        Check.end();
    }

    /** Edges 0 .. 2 with the bits 0, 4 and 31. */
    private static BitNet threeEdges() {
        BitNet net = new BitNet();
        net.edge(0, 0);
        net.edge(1, 4);
        net.edge(2, 31);
        return net;
    }

    private static void ingresses() {
        BitNet net = threeEdges();
        Check.illegalArgument("ingress(-1, 0)", () -> net.ingress(-1, 0));
        Check.illegalArgument("ingress(8, 0)", () -> net.ingress(8, 0));
        Check.illegalArgument("ingress(0, -1)", () -> net.ingress(0, -1));
        Check.illegalArgument("ingress(0, 12)", () -> net.ingress(0, 12));
        Check.illegalArgument("no edge", () -> net.ingress(0, 3));
        net.ingress(0, 0);
        net.ingress(7, 0);
        Check.illegalArgument("not 0's ingress", () -> net.send(1, 0));
        net.send(0, 0);
        net.ingress(0, 1);
        net.send(1, 0);
        Check.illegalArgument("no more 0's ingress", () -> net.send(0, 0));
        Check.same("two packets", net.count(3), 2);
        Check.illegalArgument("bits(-1)", () -> net.bits(-1));
        Check.illegalArgument("bits(8)", () -> net.bits(8));
    }

    private static void ingressesThatMayNotChange() {
        BitNet net = threeEdges();
        net.ingress(2, 0);
        net.join(1, 2, 1);
        Check.illegalArgument("an edge counts, a note is on its way", () -> net.ingress(2, 1));
        net.carry(1);
        Check.illegalArgument("an edge counts", () -> net.ingress(2, 1));
        net.join(1, 2, -1);
        Check.illegalArgument("a note is on its way", () -> net.ingress(2, 1));
        net.ingress(3, 1);
        Check.same("it has not heard that it is out", net.bits(2), 16);
        net.carry(-1);
        Check.same("nor will it", net.bits(2), 16);
        net.ingress(2, 0);
        Check.same("made anew it has heard of no receivers", net.bits(2), 0);
        net.report(2);
        Check.illegalArgument("a note of a report is on its way", () -> net.ingress(2, 1));
        net.carry(2);
        net.ingress(2, 1);
    }

    private static void joins() {
        BitNet net = threeEdges();
        net.ingress(5, 1);
        Check.same("one", net.join(2, 5, 1), 1);
        Check.same("a note", net.count(2), 1);
        Check.same("two", net.join(2, 5, 1), 2);
        Check.same("no note", net.count(2), 1);
        Check.same("one less", net.join(2, 5, -1), 1);
        Check.same("no note", net.count(2), 1);
        Check.same("none", net.join(2, 5, -1), 0);
        Check.same("a note", net.count(2), 2);
        Check.same("another group has its own count", net.join(2, 6, 1), 1);
        Check.same("another edge, too", net.join(0, 5, 1), 1);
        Check.same("the ingress itself sends notes, too", net.join(1, 5, 1), 1);
        Check.same("notes", net.count(2), 4);
        net.carry(1);
        Check.same("2 is in", net.bits(5), 1 << 31);
        net.carry(1);
        Check.same("2 is out", net.bits(5), 0);
        net.carry(2);
        Check.same("0 and 1 are in", net.bits(5), 17);
        Check.same("no ingress, no bits", net.bits(6), 0);
    }

    private static void joinsWithoutIngress() {
        BitNet net = threeEdges();
        Check.same("one", net.join(1, 0, 1), 1);
        Check.same("no note", net.count(2), 0);
        Check.illegalArgument("an edge counts receivers", () -> net.ingress(0, 0));
        Check.same("none", net.join(1, 0, -1), 0);
        Check.same("no note", net.count(2), 0);
        net.ingress(0, 0);
        Check.illegalArgument("no ingress", () -> net.send(0, 1));
    }

    private static void joinsWithWrongArguments() {
        BitNet net = threeEdges();
        net.ingress(0, 0);
        Check.illegalArgument("join(-1, 0, 1)", () -> net.join(-1, 0, 1));
        Check.illegalArgument("join(12, 0, 1)", () -> net.join(12, 0, 1));
        Check.illegalArgument("no edge", () -> net.join(3, 0, 1));
        Check.illegalArgument("join(1, -1, 1)", () -> net.join(1, -1, 1));
        Check.illegalArgument("join(1, 8, 1)", () -> net.join(1, 8, 1));
        Check.illegalArgument("change 0", () -> net.join(1, 0, 0));
        Check.illegalArgument("change 2", () -> net.join(1, 0, 2));
        Check.illegalArgument("change -2", () -> net.join(1, 0, -2));
        Check.illegalArgument("less than 0", () -> net.join(1, 0, -1));
        for (int n = 1; n <= 100; n++) {
            Check.same("join", net.join(1, 0, 1), n);
        }
        Check.illegalArgument("more than 100", () -> net.join(1, 0, 1));
        Check.same("one less", net.join(1, 0, -1), 99);
        Check.same("a single note", net.count(2), 1);
    }

    private static void reports() {
        BitNet net = threeEdges();
        Check.illegalArgument("report(-1)", () -> net.report(-1));
        Check.illegalArgument("report(12)", () -> net.report(12));
        Check.illegalArgument("no edge", () -> net.report(3));
        net.report(1);
        Check.same("no ingress, no note", net.count(2), 0);
        net.ingress(6, 0);
        net.ingress(1, 2);
        net.ingress(3, 1);
        net.join(1, 1, 1);
        net.join(1, 6, 1);
        net.carry(-1);
        net.carry(-1);
        Check.same("the notes were lost", net.bits(1), 0);
        net.report(1);
        Check.same("a note to each ingress", net.count(2), 3);
        net.carry(1);
        Check.same("the lowest group first", net.bits(1), 16);
        Check.same("then the others", net.bits(6), 0);
        Check.same("carried", net.carry(1000), 2);
        Check.same("the highest one", net.bits(6), 16);
        Check.same("no receivers there", net.bits(3), 0);
        net.join(1, 6, -1);
        net.carry(-1);
        Check.same("the note was lost", net.bits(6), 16);
        net.report(1);
        net.carry(3);
        Check.same("out by the report", net.bits(6), 0);
        Check.same("still in", net.bits(1), 16);
    }

    private static void carrying() {
        BitNet net = threeEdges();
        Check.illegalArgument("carry(0)", () -> net.carry(0));
        Check.illegalArgument("carry(-2)", () -> net.carry(-2));
        Check.illegalArgument("carry(1001)", () -> net.carry(1001));
        Check.same("none to carry", net.carry(1000), 0);
        Check.same("none to lose", net.carry(-1), 0);
        net.ingress(0, 0);
        net.join(0, 0, 1);
        net.join(1, 0, 1);
        net.join(2, 0, 1);
        Check.same("loses the oldest", net.carry(-1), 1);
        Check.same("carries the next", net.carry(1), 1);
        Check.same("which is 1's", net.bits(0), 16);
        Check.same("one is left", net.carry(2), 1);
        Check.same("which is 2's", net.bits(0), 16 | 1 << 31);
        Check.same("no bits are lost with notes", net.count(6), 0);
        Check.same("no messages either", net.count(7), 0);
    }

    private static void lateNotesCount() {
        BitNet net = threeEdges();
        net.ingress(0, 0);
        net.join(1, 0, 1);
        net.report(1);
        net.join(1, 0, -1);
        net.carry(2);
        Check.same("a note tells what was when it was sent", net.bits(0), 16);
        net.carry(1);
        Check.same("the last one says it is out", net.bits(0), 0);
    }

    // 511 calls, few of which can be spared: an object is used for no more than 512.
    private static void tooManyNotes() {
        BitNet net = new BitNet();
        net.edge(0, 0);
        net.edge(1, 4);
        for (int group = 0; group < 8; group++) {
            net.ingress(group, 0);
        }
        for (int n = 0; n < 487; n++) {
            net.report(1);
        }
        net.join(1, 0, 1);
        net.join(1, 1, 1);
        net.join(1, 2, 1);
        net.report(1);
        Check.same("a report at 3899", net.count(2), 3907);
        Check.illegalState("report", () -> net.report(1));
        Check.illegalState("report of no edge", () -> net.report(3));
        Check.same("nothing was sent", net.count(2), 3907);
        Check.same("a single note may still be sent", net.join(1, 3, 1), 1);
        Check.same("carried", net.carry(8), 8);
        Check.illegalState("3900 are left", () -> net.report(1));
        Check.same("lost", net.carry(-1), 1);
        net.report(1);
        Check.same("sent", net.count(2), 3907);
    }
}
