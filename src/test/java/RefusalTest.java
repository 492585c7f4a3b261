/**
 * Each "IllegalArgumentException: also if" of the document: the call is refused and nothing changes,
 * and the same call is taken where its reason is wanting. Numbers out of their bounds are in RangeTest.
 */
final class RefusalTest {
    private static final Twins BUSY = new Twins(Nets::busy);

    private RefusalTest() {
    }

    public static void main(String[] args) {
        edgeThatIsOne();
        edgeWithABitThatIsTaken();
        linkOfOneRouter();
        linkOfTwoThatHaveOne();
        linkOfTwoThatHaveACutOne();
        linkOfTwoOfWhomOneKnowsOne();
        cutOfNoLink();
        cutOfACutLink();
        cutOfALinkThatIsGone();
        noticeOfNoLink();
        noticeOfAnUnlearntLink();
        noticeOfAWholeLink();
        ingressThatIsNoEdge();
        ingressOfAGroupWithReceivers();
        ingressOfAGroupWithNotes();
        joinAtNoEdge();
        reportOfNoEdge();
        sendFromNoIngress();
        refusedOnesAreForgotten();
        Check.end();
    }

    // edge: "also if it is one"
    private static void edgeThatIsOne() {
        BUSY.illegalArgument("with a free bit", net -> net.edge(0, 20));
        BUSY.illegalArgument("with its own bit", net -> net.edge(0, 0));
        BUSY.illegalArgument("with the last bit, its own", net -> net.edge(11, 31));
        BUSY.illegalArgument("with another one's bit", net -> net.edge(0, 31));
        BitNet net = Nets.busy();
        net.edge(5, 20);
        Check.illegalArgument("now it is one", () -> net.edge(5, 21));
        net.edge(6, 21);
    }

    // edge: "or another one has the bit"; "no two have the same bit"
    private static void edgeWithABitThatIsTaken() {
        BUSY.illegalArgument("the first bit", net -> net.edge(5, 0));
        BUSY.illegalArgument("the last bit", net -> net.edge(5, 31));
        BUSY.illegalArgument("a bit between", net -> net.edge(5, 4));
        BitNet net = Nets.busy();
        net.edge(5, 5);
        net.edge(6, 30);
        Check.illegalArgument("now it is taken", () -> net.edge(7, 30));
    }

    // link: "also if a and b are the same"
    private static void linkOfOneRouter() {
        BUSY.illegalArgument("a router with links", net -> net.link(1, 1, 5));
        BUSY.illegalArgument("a router without", net -> net.link(7, 7, 5));
        BUSY.illegalArgument("the first", net -> net.link(0, 0, 5));
        BUSY.illegalArgument("the last", net -> net.link(11, 11, 5));
    }

    // link: "or have one (whole ...)"; "there is at most one between two"
    private static void linkOfTwoThatHaveOne() {
        BUSY.illegalArgument("link(0, 1, 1)", net -> net.link(0, 1, 1));
        BUSY.illegalArgument("link(1, 0, 1)", net -> net.link(1, 0, 1));
        BUSY.illegalArgument("of another weight", net -> net.link(0, 1, 9));
        BitNet net = Nets.busy();
        net.link(0, 3, 1);
        Check.illegalArgument("now they have one", () -> net.link(3, 0, 1));
    }

    // link: "or have one (... or cut)"
    private static void linkOfTwoThatHaveACutOne() {
        BUSY.illegalArgument("link(2, 3, 1)", net -> net.link(2, 3, 1));
        BUSY.illegalArgument("link(3, 2, 1)", net -> net.link(3, 2, 1));
    }

    // notice: "when both ends have, the link is gone (and can be made anew)"
    private static void linkOfTwoOfWhomOneKnowsOne() {
        BUSY.illegalArgument("link(0, 4, 1)", net -> net.link(0, 4, 1));
        BUSY.illegalArgument("link(4, 0, 1)", net -> net.link(4, 0, 1));
        BitNet net = Nets.busy();
        net.link(2, 0, 1);
        net.notice(4, 0);
        net.link(4, 0, 1);
        net.notice(3, 2);
        Check.illegalArgument("2 still knows of it", () -> net.link(2, 3, 1));
        net.notice(2, 3);
        net.link(2, 3, 1);
    }

    // cut: "also if they have no whole one"
    private static void cutOfNoLink() {
        BUSY.illegalArgument("cut(0, 3)", net -> net.cut(0, 3));
        BUSY.illegalArgument("cut(7, 8)", net -> net.cut(7, 8));
        BUSY.illegalArgument("cut(1, 1)", net -> net.cut(1, 1));
        BUSY.illegalArgument("cut(0, 0)", net -> net.cut(0, 0));
    }

    private static void cutOfACutLink() {
        BUSY.illegalArgument("cut(2, 3)", net -> net.cut(2, 3));
        BUSY.illegalArgument("cut(3, 2)", net -> net.cut(3, 2));
        BUSY.illegalArgument("unlearnt by one end", net -> net.cut(0, 4));
        BUSY.illegalArgument("unlearnt by the other", net -> net.cut(4, 0));
        BitNet net = Nets.busy();
        net.cut(1, 0);
        Check.illegalArgument("now it is cut", () -> net.cut(0, 1));
    }

    private static void cutOfALinkThatIsGone() {
        BUSY.illegalArgument("cut(0, 2)", net -> net.cut(0, 2));
        BUSY.illegalArgument("cut(2, 0)", net -> net.cut(2, 0));
        BitNet net = Nets.busy();
        net.link(0, 2, 1);
        net.cut(0, 2);
    }

    // notice: "also if it doesn't know one"
    private static void noticeOfNoLink() {
        BUSY.illegalArgument("notice(0, 3)", net -> net.notice(0, 3));
        BUSY.illegalArgument("notice(7, 8)", net -> net.notice(7, 8));
        BUSY.illegalArgument("notice(1, 1)", net -> net.notice(1, 1));
        BUSY.illegalArgument("notice(0, 0)", net -> net.notice(0, 0));
    }

    private static void noticeOfAnUnlearntLink() {
        BUSY.illegalArgument("0 has unlearnt it", net -> net.notice(0, 4));
        BUSY.illegalArgument("both have", net -> net.notice(0, 2));
        BUSY.illegalArgument("both have", net -> net.notice(2, 0));
        BitNet net = Nets.busy();
        net.notice(4, 0);
        Check.illegalArgument("now 4 has, too", () -> net.notice(4, 0));
        net.notice(2, 3);
        net.notice(3, 2);
        Check.illegalArgument("now both have", () -> net.notice(2, 3));
    }

    // notice: "or it isn't cut"
    private static void noticeOfAWholeLink() {
        BUSY.illegalArgument("notice(0, 1)", net -> net.notice(0, 1));
        BUSY.illegalArgument("notice(1, 0)", net -> net.notice(1, 0));
        BitNet net = Nets.busy();
        net.cut(0, 1);
        net.notice(1, 0);
        net.link(0, 2, 1);
        Check.illegalArgument("made anew", () -> net.notice(0, 2));
        net.cut(0, 2);
        net.notice(0, 2);
    }

    // ingress: "also if it is no edge"
    private static void ingressThatIsNoEdge() {
        BUSY.illegalArgument("ingress(5, 7)", net -> net.ingress(5, 7));
        BitNet net = Nets.busy();
        net.edge(7, 20);
        net.ingress(5, 7);
        Check.same("now it is", net.send(7, 5), 4);
    }

    // ingress: "or some edge counts receivers of the group"
    private static void ingressOfAGroupWithReceivers() {
        BUSY.illegalArgument("a group with an ingress", net -> net.ingress(2, 0));
        BUSY.illegalArgument("even the same ingress", net -> net.ingress(2, 11));
        BUSY.illegalArgument("a group without one", net -> net.ingress(3, 0));
        BitNet net = Nets.busy();
        net.join(0, 3, -1);
        net.ingress(3, 4);
        Check.same("its ingress", net.send(4, 3), 4);
        net.join(11, 3, 1);
        net.carry(1000);
        Check.illegalArgument("the last router counts one", () -> net.ingress(3, 4));
    }

    // ingress: "or notes of it are on their way"
    private static void ingressOfAGroupWithNotes() {
        BUSY.illegalArgument("two notes", net -> net.ingress(1, 4));
        BUSY.illegalArgument("even the same ingress", net -> net.ingress(1, 1));
        BitNet net = Nets.busy();
        // The oldest is of group 0, then come the two of group 1.
        net.carry(2);
        Check.illegalArgument("one note", () -> net.ingress(1, 4));
        Check.same("3 is in by the first", net.bits(1), 8);
        net.carry(-1);
        net.ingress(1, 4);
        Check.same("it has heard of no receivers", net.bits(1), 0);
        net.report(11);
        Check.illegalArgument("a note of a report", () -> net.ingress(1, 0));
        net.carry(1000);
        net.ingress(1, 0);
        Check.same("its ingress", net.send(0, 1), 4);
        Check.illegalArgument("no more its ingress", () -> net.send(4, 1));
    }

    // join: "also if it is no edge"
    private static void joinAtNoEdge() {
        BUSY.illegalArgument("join(7, 0, 1)", net -> net.join(7, 0, 1));
        BUSY.illegalArgument("join(7, 0, -1)", net -> net.join(7, 0, -1));
        BUSY.illegalArgument("of a group without an ingress", net -> net.join(7, 5, 1));
        BitNet net = Nets.busy();
        net.edge(7, 20);
        Check.same("now it is", net.join(7, 0, 1), 1);
    }

    // report: "also if it is no edge"
    private static void reportOfNoEdge() {
        BUSY.illegalArgument("report(7)", net -> net.report(7));
        BitNet none = new BitNet();
        Check.illegalArgument("no edge, and no ingress either", () -> none.report(0));
        BitNet net = Nets.busy();
        net.edge(7, 20);
        int before = net.count(2);
        net.report(7);
        Check.same("now it is", net.count(2), before + 3);
    }

    // send: "also if that isn't the group's ingress"
    private static void sendFromNoIngress() {
        BUSY.illegalArgument("another edge", net -> net.send(1, 0));
        BUSY.illegalArgument("another group's ingress", net -> net.send(11, 0));
        BUSY.illegalArgument("no edge", net -> net.send(7, 0));
        BUSY.illegalArgument("a group without one", net -> net.send(0, 3));
        BUSY.illegalArgument("a group of which nothing is known", net -> net.send(0, 7));
        BitNet net = Nets.busy();
        Check.same("the ingress", net.send(11, 2), 4);
        Check.same("that of a group without receivers", net.send(1, 1), 5);
    }

    // Many in a row, after which the net is as if there had been none.
    private static void refusedOnesAreForgotten() {
        BUSY.illegalArgument("all at once", net -> {
            Check.illegalArgument("edge", () -> net.edge(0, 20));
            Check.illegalArgument("edge", () -> net.edge(5, 0));
            Check.illegalArgument("link", () -> net.link(0, 4, 1));
            Check.illegalArgument("cut", () -> net.cut(2, 3));
            Check.illegalArgument("notice", () -> net.notice(1, 0));
            Check.illegalArgument("ingress", () -> net.ingress(3, 0));
            Check.illegalArgument("join", () -> net.join(4, 0, -1));
            Check.illegalArgument("report", () -> net.report(7));
            Check.illegalArgument("send", () -> net.send(1, 0));
            Check.illegalArgument("sendBits", () -> net.sendBits(12, -1));
            net.delivered(4);
        });
    }
}
