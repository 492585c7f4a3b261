/** Promises 12 to 16: ingress, join, report, carry, bits. */
final class GroupTest {
    private GroupTest() {
    }

    public static void main(String[] args) {
        ingresses();
        ingressesThatMayNotChange();
        joins();
        joinsWithoutIngress();
        reports();
        reportsOfOneAndOfNone();
        notesAtOneAndAtNone();
        carrying();
        carryingUntilNoneAreLeft();
        lateNotesCount();
        Check.end();
    }

    /** Edges 0 .. 2 with the bits 0, 4 and 31. */
    private static BitNet threeEdges() {
        BitNet net = new BitNet();
        net.edge(0, 0);
        net.edge(1, 4);
        net.edge(2, 31);
        return net;
    }

    private static void ingresses() {
        BitNet net = threeEdges();
        net.ingress(0, 0);
        net.ingress(7, 0);
        Check.illegalArgument("not 0's ingress", () -> net.send(1, 0));
        net.send(0, 0);
        net.ingress(0, 1);
        net.send(1, 0);
        Check.illegalArgument("no more 0's ingress", () -> net.send(0, 0));
        Check.same("two packets", net.count(3), 2);
    }

    private static void ingressesThatMayNotChange() {
        BitNet net = threeEdges();
        net.ingress(2, 0);
        net.join(1, 2, 1);
        Check.illegalArgument("an edge counts, a note is on its way", () -> net.ingress(2, 1));
        net.carry(1);
        Check.illegalArgument("an edge counts", () -> net.ingress(2, 1));
        net.join(1, 2, -1);
        Check.illegalArgument("a note is on its way", () -> net.ingress(2, 1));
        net.ingress(3, 1);
        Check.same("it has not heard that it is out", net.bits(2), 16);
        net.carry(-1);
        Check.same("nor will it", net.bits(2), 16);
        net.ingress(2, 0);
        Check.same("made anew it has heard of no receivers", net.bits(2), 0);
        net.report(2);
        Check.illegalArgument("a note of a report is on its way", () -> net.ingress(2, 1));
        net.carry(2);
        net.ingress(2, 1);
    }

    private static void joins() {
        BitNet net = threeEdges();
        net.ingress(5, 1);
        Check.same("one", net.join(2, 5, 1), 1);
        Check.same("a note", net.count(2), 1);
        Check.same("two", net.join(2, 5, 1), 2);
        Check.same("no note", net.count(2), 1);
        Check.same("one less", net.join(2, 5, -1), 1);
        Check.same("no note", net.count(2), 1);
        Check.same("none", net.join(2, 5, -1), 0);
        Check.same("a note", net.count(2), 2);
        Check.same("another group has its own count", net.join(2, 6, 1), 1);
        Check.same("another edge, too", net.join(0, 5, 1), 1);
        Check.same("the ingress itself sends notes, too", net.join(1, 5, 1), 1);
        Check.same("notes", net.count(2), 4);
        net.carry(1);
        Check.same("2 is in", net.bits(5), 1 << 31);
        net.carry(1);
        Check.same("2 is out", net.bits(5), 0);
        net.carry(2);
        Check.same("0 and 1 are in", net.bits(5), 17);
        Check.same("no ingress, no bits", net.bits(6), 0);
    }

    private static void joinsWithoutIngress() {
        BitNet net = threeEdges();
        Check.same("one", net.join(1, 0, 1), 1);
        Check.same("no note", net.count(2), 0);
        Check.illegalArgument("an edge counts receivers", () -> net.ingress(0, 0));
        Check.same("none", net.join(1, 0, -1), 0);
        Check.same("no note", net.count(2), 0);
        net.ingress(0, 0);
        Check.illegalArgument("no ingress", () -> net.send(0, 1));
    }

    private static void reports() {
        BitNet net = threeEdges();
        net.report(1);
        Check.same("no ingress, no note", net.count(2), 0);
        net.ingress(6, 0);
        net.ingress(1, 2);
        net.ingress(3, 1);
        net.join(1, 1, 1);
        net.join(1, 6, 1);
        net.carry(-1);
        net.carry(-1);
        Check.same("the notes were lost", net.bits(1), 0);
        net.report(1);
        Check.same("a note to each ingress", net.count(2), 3);
        net.carry(1);
        Check.same("the lowest group first", net.bits(1), 16);
        Check.same("then the others", net.bits(6), 0);
        Check.same("carried", net.carry(1000), 2);
        Check.same("the highest one", net.bits(6), 16);
        Check.same("no receivers there", net.bits(3), 0);
        net.join(1, 6, -1);
        net.carry(-1);
        Check.same("the note was lost", net.bits(6), 16);
        net.report(1);
        net.carry(3);
        Check.same("out by the report", net.bits(6), 0);
        Check.same("still in", net.bits(1), 16);
    }

    private static void carrying() {
        BitNet net = threeEdges();
        net.ingress(0, 0);
        net.join(0, 0, 1);
        net.join(1, 0, 1);
        net.join(2, 0, 1);
        Check.same("loses the oldest", net.carry(-1), 1);
        Check.same("carries the next", net.carry(1), 1);
        Check.same("which is 1's", net.bits(0), 16);
        Check.same("one is left", net.carry(2), 1);
        Check.same("which is 2's", net.bits(0), 16 | 1 << 31);
        Check.same("no bits are lost with notes", net.count(6), 0);
        Check.same("no messages either", net.count(7), 0);
    }

    // carry: "less, if there are none left"; "1, or 0 if there is none"
    private static void carryingUntilNoneAreLeft() {
        BitNet none = threeEdges();
        Check.same("none to carry", none.carry(1), 0);
        Check.same("none to carry", none.carry(1000), 0);
        Check.same("none to lose", none.carry(-1), 0);
        BitNet just = twoNotes();
        Check.same("as many as there are", just.carry(2), 2);
        Check.same("none is left", just.carry(1), 0);
        BitNet less = twoNotes();
        Check.same("one less", less.carry(1), 1);
        Check.same("the other is lost", less.carry(-1), 1);
        Check.same("none to lose", less.carry(-1), 0);
        Check.same("one came", less.bits(0), 16);
        BitNet more = twoNotes();
        Check.same("one more", more.carry(3), 2);
        Check.same("both came", more.bits(0), 16 | 1 << 31);
    }

    private static BitNet twoNotes() {
        BitNet net = threeEdges();
        net.ingress(0, 0);
        net.join(1, 0, 1);
        net.join(2, 0, 1);
        Check.same("two notes", net.count(2), 2);
        return net;
    }

    // "When a count becomes 1 from 0, or 0 ..."
    private static void notesAtOneAndAtNone() {
        BitNet net = threeEdges();
        net.ingress(0, 0);
        int[] changes = {1, 1, 1, -1, -1, -1, 1, -1};
        int[] counts = {1, 2, 3, 2, 1, 0, 1, 0};
        int[] notes = {1, 1, 1, 1, 1, 2, 3, 4};
        for (int n = 0; n < changes.length; n++) {
            Check.same("receivers", net.join(1, 0, changes[n]), counts[n]);
            Check.same("notes with " + counts[n], net.count(2), notes[n]);
        }
        for (int n = 0; n < 4; n++) {
            net.carry(1);
            Check.same("in and out by turns", net.bits(0), n % 2 == 0 ? 16 : 0);
        }
    }

    // report: "whether the edge's count is above 0"
    private static void reportsOfOneAndOfNone() {
        BitNet net = threeEdges();
        net.ingress(0, 0);
        net.join(1, 0, 1);
        net.carry(-1);
        net.report(1);
        net.carry(1);
        Check.same("one is above 0", net.bits(0), 16);
        net.join(1, 0, -1);
        net.carry(-1);
        net.report(1);
        net.carry(1);
        Check.same("none is not", net.bits(0), 0);
        net.report(2);
        net.carry(1);
        Check.same("nor is it where there never was one", net.bits(0), 0);
    }

    private static void lateNotesCount() {
        BitNet net = threeEdges();
        net.ingress(0, 0);
        net.join(1, 0, 1);
        net.report(1);
        net.join(1, 0, -1);
        net.carry(2);
        Check.same("a note tells what was when it was sent", net.bits(0), 16);
        net.carry(1);
        Check.same("the last one says it is out", net.bits(0), 0);
    }
}
