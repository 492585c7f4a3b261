/**
 * "At most 4000 messages, copies or notes are on their way at once of each kind, and 900 packets are
 * numbered": each limit just below it and at it, that a refused call changes nothing, and that
 * IllegalStateException goes before IllegalArgumentException.
 */
final class LimitTest {
    private static final int ALL_AROUND = 0b111111111110;

    private LimitTest() {
    }

    public static void main(String[] args) {
        linkAndNoticeBelow2000();
        linkAt2000();
        noticeAt2000();
        stepBelow3900();
        stepAt3900();
        stepsEndAt3900();
        moveBelow3900();
        moveAt3900();
        losingACopyAt3900();
        movesEndAt3900();
        reportBelow3900();
        reportAt3900();
        reportsWithoutIngressesAt3900();
        sendBitsTo4000();
        sendTo4000();
        joinTo4000();
        packetsTo900();
        Check.end();
    }

    // In a mesh of 8 routers these steps lead to just these numbers of messages.
    private static BitNet messages(int wanted) {
        boolean isBelow = wanted == 1999 || wanted == 3899;
        BitNet net = Nets.crowd(8, isBelow ? 20 : 21);
        switch (wanted) {
            case 1999 -> net.step(251);
            case 2000 -> net.step(246);
            case 3899 -> net.step(631);
            case 3900 -> net.step(626);
            default -> throw new IllegalArgumentException();
        }
        Check.same("messages", net.count(0), wanted);
        net.cut(2, 3);
        return net;
    }

    // "link() and notice() if 2000 messages are on their way"
    private static void linkAndNoticeBelow2000() {
        BitNet linked = messages(1999);
        linked.link(8, 9, 1);
        Check.same("two more", linked.count(0), 2001);
        Check.illegalState("now there are more than 2000", () -> linked.link(8, 10, 1));
        Check.illegalState("now there are more than 2000", () -> linked.notice(2, 3));
        BitNet noticed = messages(1999);
        noticed.notice(2, 3);
        Check.same("six more", noticed.count(0), 2005);
        BitNet refused = messages(1999);
        Check.illegalArgument("link to itself", () -> refused.link(8, 8, 1));
        Check.illegalArgument("notice of no link", () -> refused.notice(8, 9));
        Check.same("none more", refused.count(0), 1999);
    }

    private static void linkAt2000() {
        Twins full = new Twins(() -> messages(2000));
        full.illegalState("link(8, 9, 1)", net -> net.link(8, 9, 1));
        full.illegalState("link(11, 0, 1)", net -> net.link(11, 0, 1));
        full.illegalState("no such router", net -> net.link(-1, 12, 1));
        full.illegalState("a router with itself", net -> net.link(8, 8, 1));
        full.illegalState("two that have one", net -> net.link(0, 1, 1));
        full.illegalState("no such weight", net -> net.link(8, 9, 0));
        // Of the messages here the oldest are sent on to many, so the next count below is far off.
        BitNet cut = messages(2000);
        for (int a = 0; a < 8; a++) {
            for (int b = a + 1; b < 8; b++) {
                if (a != 2 || b != 3) {
                    cut.cut(a, b);
                }
            }
        }
        cut.step(1);
        Check.same("one is lost", cut.count(0), 1999);
        cut.link(8, 9, 1);
        Check.same("two more", cut.count(0), 2001);
    }

    private static void noticeAt2000() {
        Twins full = new Twins(() -> messages(2000));
        full.illegalState("notice(2, 3)", net -> net.notice(2, 3));
        full.illegalState("notice(3, 2)", net -> net.notice(3, 2));
        full.illegalState("no such router", net -> net.notice(12, -1));
        full.illegalState("no link", net -> net.notice(8, 9));
        full.illegalState("a whole link", net -> net.notice(0, 1));
    }

    // "steps and moves, but for -1, if 3900 are"
    private static void stepBelow3900() {
        BitNet net = messages(3899);
        Check.same("one step", net.step(1), 1);
        Check.same("it was sent on to 6", net.count(0), 3904);
        Check.illegalState("now there are more than 3900", () -> net.step(1));
        BitNet refused = messages(3899);
        Check.illegalArgument("step(0)", () -> refused.step(0));
        Check.illegalArgument("step(1001)", () -> refused.step(1001));
        Check.same("none more", refused.count(0), 3899);
    }

    private static void stepAt3900() {
        Twins full = new Twins(() -> messages(3900));
        full.illegalState("step(1)", net -> net.step(1));
        full.illegalState("step(1000)", net -> net.step(1000));
        full.illegalState("step(0)", net -> net.step(0));
        full.illegalState("step(1001)", net -> net.step(1001));
        full.illegalState("step(-1)", net -> net.step(-1));
    }

    // step: "less, if ... 3900 on their way"
    private static void stepsEndAt3900() {
        BitNet just = Nets.crowd(8, 21);
        Check.same("one before", just.step(625), 625);
        Check.yes("less than 3900", just.count(0) < 3900);
        Check.same("one more, though 1000 are asked for", just.step(1000), 1);
        Check.same("just 3900", just.count(0), 3900);
        BitNet over = Nets.crowd(8, 20);
        Check.same("until there are more than 3899", over.step(1000), 632);
        Check.same("a step may end above", over.count(0), 3904);
        BitNet asked = Nets.crowd(8, 21);
        Check.same("as many as are asked for", asked.step(626), 626);
        Check.same("just 3900", asked.count(0), 3900);
    }

    /** A star of 24 calls whose middle has sent copies to those around it. */
    private static BitNet copies(int wanted) {
        BitNet net = Nets.star();
        int rest = wanted % 11;
        for (int n = 0; n < wanted / 11; n++) {
            net.sendBits(0, ALL_AROUND);
        }
        if (rest > 0) {
            net.sendBits(0, (1 << rest) - 1 << 1);
        }
        Check.same("copies", net.count(1), wanted);
        return net;
    }

    private static void moveBelow3900() {
        BitNet net = copies(3899);
        Check.same("one is moved", net.move(1), 1);
        Check.same("copies", net.count(1), 3898);
        BitNet refused = copies(3899);
        Check.illegalArgument("move(0)", () -> refused.move(0));
        Check.illegalArgument("move(-2)", () -> refused.move(-2));
        Check.illegalArgument("move(1001)", () -> refused.move(1001));
        Check.same("none is moved", refused.count(1), 3899);
    }

    private static void moveAt3900() {
        Twins full = new Twins(() -> copies(3900), Probe::shortly);
        full.illegalState("move(1)", net -> net.move(1));
        full.illegalState("move(1000)", net -> net.move(1000));
        full.illegalState("move(0)", net -> net.move(0));
        full.illegalState("move(-2)", net -> net.move(-2));
        full.illegalState("move(1001)", net -> net.move(1001));
    }

    private static void losingACopyAt3900() {
        BitNet net = copies(3901);
        Check.same("lost", net.move(-1), 1);
        Check.same("with its bit", net.count(6), 1);
        Check.illegalState("3900 are left", () -> net.move(1));
        Check.same("lost", net.move(-1), 1);
        Check.same("3899 are left", net.move(1), 1);
        Check.same("copies", net.count(1), 3898);
    }

    // move: "less, if ... 3900 on their way"
    private static void movesEndAt3900() {
        BitNet net = Nets.star();
        for (int n = 1; n <= 8; n++) {
            net.sendBits(1, 0b1100);
        }
        for (int n = 1; n <= 353; n++) {
            net.sendBits(0, ALL_AROUND);
        }
        net.sendBits(0, 0b11110);
        // The oldest 8 become two each when they come to 0.
        Check.same("copies", net.count(1), 8 + 353 * 11 + 4);
        Check.same("until 3900 are on their way", net.move(1000), 5);
        Check.same("copies", net.count(1), 3900);
        Check.illegalState("move at 3900", () -> net.move(1));
        net.move(-1);
        Check.same("one more", net.move(1000), 1);
        Check.same("copies", net.count(1), 3900);
    }

    /** Some 500 calls: all ingresses are 0, and 1 reports to them; then joins send the rest. */
    private static BitNet notes(int wanted) {
        BitNet net = new BitNet();
        net.edge(0, 0);
        for (int group = 0; group < 8; group++) {
            net.ingress(group, 0);
        }
        for (int n = 0; n < wanted / 8; n++) {
            net.report(0);
        }
        for (int n = 0; n < wanted % 8; n++) {
            net.join(0, n, 1);
        }
        return net;
    }

    // "report() if 3900 notes are"
    private static void reportBelow3900() {
        BitNet net = notes(3899);
        net.report(0);
        Check.same("eight more", net.count(2), 3907);
        Check.illegalState("now there are more than 3900", () -> net.report(0));
        Check.same("a single note may still be sent", net.join(0, 3, 1), 1);
        Check.same("carried", net.carry(8), 8);
        Check.illegalState("3900 are left", () -> net.report(0));
        Check.same("lost", net.carry(-1), 1);
        net.report(0);
        Check.same("sent", net.count(2), 3907);
        BitNet refused = notes(3899);
        Check.illegalArgument("no edge", () -> refused.report(1));
        Check.illegalArgument("no router", () -> refused.report(12));
        Check.same("none more", refused.count(2), 3899);
    }

    private static void reportAt3900() {
        Twins full = new Twins(() -> notes(3900), Probe::shortly);
        full.illegalState("report(0)", net -> net.report(0));
        full.illegalState("no edge", net -> net.report(1));
        full.illegalState("no router", net -> net.report(-1));
    }

    // At 3900 it could send, so it is refused, even by an edge without receivers.
    private static void reportsWithoutIngressesAt3900() {
        BitNet net = new BitNet();
        net.edge(0, 0);
        net.report(0);
        Check.same("no note, no limit", net.count(2), 0);
        BitNet full = notes(3900);
        full.edge(1, 1);
        Check.illegalState("an edge without receivers", () -> full.report(1));
    }

    // "IllegalStateException is thrown by calls that would send more"
    private static void sendBitsTo4000() {
        BitNet net = copies(3996);
        Check.same("four more", net.sendBits(0, 0b11110), 365);
        Check.same("just 4000", net.count(1), 4000);
        Twins four = new Twins(() -> copies(3996), Probe::shortly);
        four.illegalState("five more", full -> full.sendBits(0, 0b111110));
        four.illegalState("eleven more, and its own", full -> full.sendBits(0, -1));
        four.illegalArgument("no such router", full -> full.sendBits(12, -1));
        Twins none = new Twins(() -> copies(4000), Probe::shortly);
        none.illegalState("one more", full -> full.sendBits(1, 1));
        none.illegalState("one more, and its own", full -> full.sendBits(1, 3));
        none.illegalArgument("no such router", full -> full.sendBits(-1, 1));
        BitNet full = copies(4000);
        Check.same("its own bit sends nothing", full.sendBits(1, 2), 365);
        Check.same("delivered", full.delivered(365), 2);
        Check.same("a lost one sends nothing", full.sendBits(1, 1 << 20), 366);
        Check.same("lost", full.count(6), 1);
        Check.same("no bits send nothing", full.sendBits(1, 0), 367);
        Check.illegalState("a copy", () -> full.sendBits(1, 1));
        Check.same("lost", full.move(-1), 1);
        Check.same("then one more may be sent", full.sendBits(1, 1), 368);
        Check.same("just 4000", full.count(1), 4000);
    }

    private static BitNet copiesAndAGroup(int wanted) {
        BitNet net = copies(wanted);
        net.ingress(0, 0);
        net.join(1, 0, 1);
        net.join(2, 0, 1);
        net.carry(2);
        return net;
    }

    private static void sendTo4000() {
        BitNet net = copiesAndAGroup(3998);
        Check.same("two more", net.send(0, 0), 365);
        Check.same("just 4000", net.count(1), 4000);
        Twins one = new Twins(() -> copiesAndAGroup(3999), Probe::shortly);
        one.illegalState("two more", full -> full.send(0, 0));
        one.illegalArgument("not the ingress", full -> full.send(1, 0));
        one.illegalArgument("no such group", full -> full.send(0, 8));
        BitNet full = copiesAndAGroup(4000);
        full.ingress(1, 0);
        Check.same("a group without receivers", full.send(0, 1), 365);
    }

    // This takes more than 512 calls, so it asks for more than the document promises.
    private static void joinTo4000() {
        BitNet net = notes(3898);
        net.report(0);
        for (int edge = 1; edge < 12; edge++) {
            net.edge(edge, edge);
        }
        for (int n = 0; n < 88; n++) {
            net.join(1 + n % 11, n / 11, 1);
        }
        for (int group = 2; group < 7; group++) {
            net.join(0, group, 1);
        }
        Check.same("notes", net.count(2), 3999);
        Check.same("one more", net.join(0, 7, 1), 1);
        Check.same("just 4000", net.count(2), 4000);
        Check.illegalState("in", () -> net.join(0, 0, -1));
        Check.illegalArgument("no such change", () -> net.join(0, 0, 0));
        Check.illegalArgument("no such router", () -> net.join(12, 0, 1));
        Check.same("none more", net.count(2), 4000);
        Check.same("two receivers: no note, and there was one still", net.join(0, 0, 1), 2);
        Check.same("one again: no note", net.join(0, 0, -1), 1);
        Check.same("carried", net.carry(1), 1);
        Check.same("then one more may be sent", net.join(0, 0, -1), 0);
        Check.same("just 4000", net.count(2), 4000);
        Check.illegalState("out", () -> net.join(0, 0, 1));
    }

    // This takes more than 512 calls, so it asks for more than the document promises.
    private static void packetsTo900() {
        BitNet net = new BitNet();
        net.edge(0, 0);
        net.ingress(0, 0);
        for (int n = 1; n < 900; n++) {
            net.sendBits(0, 1);
        }
        Check.same("the last", net.sendBits(0, 3), 900);
        Check.illegalState("one more", () -> net.sendBits(0, 3));
        Check.illegalState("without bits", () -> net.sendBits(1, 0));
        Check.illegalState("for a group", () -> net.send(0, 0));
        Check.same("packets", net.count(3), 900);
        Check.same("delivered", net.count(4), 900);
        Check.same("lost", net.count(6), 1);
        Check.same("the last one", net.delivered(900), 1);
        Check.illegalArgument("no such packet", () -> net.delivered(901));
    }
}
