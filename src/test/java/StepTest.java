/** Promises 6, 7 and 11: step, settled, stored. */
final class StepTest {
    private StepTest() {
    }

    public static void main(String[] args) {
        steps();
        messagesOverCutLinksAreLost();
        messagesGoOverLinksMadeAnew();
        lowerNumbersAreAnswered();
        settledOrNot();
        settledInParts();
        sameNumbersAreNotSentOn();
        messagesStayInOrder();
        storedWithWrongArguments();
        linksAtTheLimit();
        tooManyMessages();
        stepsToTheLimit();
        Check.end();
    }

    private static void steps() {
        BitNet net = new BitNet();
        Check.same("no messages", net.step(1), 0);
        Check.illegalArgument("step(0)", () -> net.step(0));
        Check.illegalArgument("step(-1)", () -> net.step(-1));
        Check.illegalArgument("step(1001)", () -> net.step(1001));
        net.link(0, 1, 1);
        net.link(1, 2, 1);
        // 0>1, 1>0, then 1 (of number 2) >0 and >2, then 2>1.
        Check.same("five messages", net.count(0), 5);
        Check.same("step(2)", net.step(2), 2);
        Check.same("0's went on to 2", net.count(0), 4);
        Check.same("1's of number 1", net.stored(0, 1), 1);
        Check.same("step(1)", net.step(1), 1);
        Check.same("1's of number 2", net.stored(0, 1), 2);
        Check.same("0 has nobody to send it on to", net.count(0), 3);
        Check.same("less than 1000 are left", net.step(1000), 4);
        Check.same("0 heard of 2", net.stored(0, 2), 1);
        Check.same("2 heard of 0", net.stored(2, 0), 1);
        Check.same("none are left", net.step(1000), 0);
    }

    private static void messagesOverCutLinksAreLost() {
        BitNet net = new BitNet();
        net.link(0, 1, 1);
        net.cut(0, 1);
        Check.same("both are carried", net.step(5), 2);
        Check.same("and lost", net.count(7), 2);
        Check.same("nothing came", net.stored(1, 0), 0);
        BitNet gone = new BitNet();
        gone.link(0, 1, 1);
        gone.cut(0, 1);
        gone.notice(0, 1);
        gone.notice(1, 0);
        Check.same("both are carried", gone.step(5), 2);
        Check.same("and lost, the link being gone", gone.count(7), 2);
        BitNet known = new BitNet();
        known.link(0, 1, 1);
        known.step(5);
        known.cut(0, 1);
        known.link(1, 2, 1);
        // 1 to 0 and 2, 2 to 1, 1's store of 0 to 2.
        Check.same("to the cut link that it knows, too", known.count(0), 4);
        known.step(1);
        Check.same("which loses it", known.count(7), 1);
    }

    private static void messagesGoOverLinksMadeAnew() {
        BitNet net = new BitNet();
        net.link(0, 1, 1);
        net.cut(0, 1);
        net.notice(0, 1);
        net.notice(1, 0);
        net.link(0, 1, 2);
        net.step(1);
        Check.same("the old message came over the new link", net.stored(1, 0), 1);
        Check.same("and none was lost", net.count(7), 0);
        net.step(1000);
        Check.same("the latest one", net.stored(1, 0), 3);
        Check.same("its weight", net.distance(1, 0), 2);
    }

    private static void lowerNumbersAreAnswered() {
        BitNet net = new BitNet();
        net.link(0, 1, 1);
        net.step(1000);
        net.link(1, 2, 1);
        net.step(1000);
        // 0 is cut off and misses what 1 tells; it comes back over 2 with an old one of 1.
        net.cut(0, 1);
        net.notice(1, 0);
        net.notice(0, 1);
        net.step(1000);
        Check.same("0 has an old one of 1", net.stored(0, 1), 2);
        Check.same("2 has a new one of 1", net.stored(2, 1), 3);
        net.link(0, 2, 1);
        // 0 to 2; 2 to 0 and 1; 0's store: 1, 2; 2's store: 0, 1.
        Check.same("sent by the link", net.count(0), 1 + 2 + 2 + 2);
        Check.same("0's, 2's two", net.step(3), 3);
        // 2 sent on 0's to 1; 0 and 1 had nobody to send 2's on to.
        Check.same("0's store, 2's store, 0's to 1", net.count(0), 5);
        net.step(1);
        Check.same("the old one of 1 is answered by the new one", net.count(0), 5);
        net.step(1);
        Check.same("the old one of 2 by 2's own latest", net.count(0), 5);
        // Left: 0's of number 1 and 1's of number 3 to 0, 0's to 1, and the two answers.
        net.step(1);
        Check.same("the old one of 0 by 0's own latest", net.count(0), 5);
        net.step(1);
        Check.same("1's of number 3 is new to 0", net.stored(0, 1), 3);
        Check.same("and goes nowhere", net.count(0), 4);
        net.step(1000);
        Check.yes("all have the same", net.settled());
        Check.same("the way is over 2", net.distance(0, 1), 2);
    }

    private static void settledOrNot() {
        BitNet net = new BitNet();
        net.link(0, 1, 1);
        Check.no("messages are on their way", net.settled());
        net.step(1);
        Check.no("a message is on its way", net.settled());
        net.step(1);
        Check.yes("none, and the same stores", net.settled());
        net.link(1, 2, 1);
        net.cut(1, 2);
        net.step(1000);
        Check.yes("2 hangs together with nobody", net.settled());
        net.notice(1, 2);
        Check.no("the message to 0", net.settled());
        net.cut(0, 1);
        net.step(1000);
        Check.same("which is lost", net.count(0), 0);
        Check.yes("all are alone", net.settled());
    }

    private static void settledInParts() {
        BitNet net = new BitNet();
        net.link(0, 1, 1);
        net.link(2, 3, 1);
        net.step(1000);
        Check.yes("two parts with stores of their own", net.settled());
        net.link(1, 2, 1);
        net.cut(1, 2);
        net.step(1000);
        Check.same("lost: 1's and 2's, and both stores", net.count(7), 4);
        Check.yes("the parts agree within themselves", net.settled());
        BitNet apart = new BitNet();
        apart.link(0, 1, 1);
        apart.step(1000);
        apart.link(1, 2, 1);
        apart.cut(0, 1);
        apart.step(1000);
        apart.notice(0, 1);
        apart.notice(1, 0);
        apart.step(1000);
        apart.link(0, 1, 1);
        Check.no("news is on its way", apart.settled());
        apart.step(1000);
        Check.yes("the news came", apart.settled());
    }

    private static void storedWithWrongArguments() {
        BitNet net = new BitNet();
        Check.illegalArgument("stored(-1, 0)", () -> net.stored(-1, 0));
        Check.illegalArgument("stored(12, 0)", () -> net.stored(12, 0));
        Check.illegalArgument("stored(0, -1)", () -> net.stored(0, -1));
        Check.illegalArgument("stored(0, 12)", () -> net.stored(0, 12));
        Check.same("none of its own", net.stored(11, 11), 0);
    }

    private static void sameNumbersAreNotSentOn() {
        BitNet net = new BitNet();
        net.link(0, 1, 1);
        net.link(1, 2, 1);
        net.link(0, 2, 1);
        net.step(1000);
        net.link(0, 3, 1);
        // 0 to 1, 2 and 3; 3 to 0; 0's store of 1 and 2 to 3.
        Check.same("sent", net.count(0), 6);
        net.step(3);
        // 1 and 2 sent 0's on to each other.
        Check.same("sent on", net.count(0), 5);
        net.step(3);
        // 0 sent 3's on to 1 and 2; 3 had nobody to send on to.
        Check.same("sent on", net.count(0), 4);
        net.step(2);
        Check.same("0's are of the same number as what they have", net.count(0), 2);
        Check.same("3's go on between 1 and 2", net.step(1000), 4);
    }

    private static void messagesStayInOrder() {
        BitNet net = new BitNet();
        for (int n = 1; n <= 9; n++) {
            anew(net, 0, 1);
        }
        Check.same("two a time", net.count(0), 18);
        net.step(5);
        Check.same("0's third", net.stored(1, 0), 5);
        Check.same("1's second", net.stored(0, 1), 3);
        for (int n = 1; n <= 30; n++) {
            anew(net, 0, 1);
        }
        // Each time a number is told and the next one, that of the unlearning, is told to nobody;
        // from the tenth on both send what they have of each other, too.
        Check.same("four a time", net.count(0), 13 + 30 * 4);
        net.step(13);
        Check.same("0's ninth", net.stored(1, 0), 17);
        Check.same("1's ninth", net.stored(0, 1), 17);
        net.step(2);
        Check.same("0's tenth", net.stored(1, 0), 19);
        Check.same("1's tenth", net.stored(0, 1), 19);
    }

    /** Makes a link, after it has been cut and unlearnt if there was one. */
    private static void anew(BitNet net, int a, int b) {
        if (net.stored(a, a) != 0) {
            net.cut(a, b);
            net.notice(a, b);
            net.notice(b, a);
        }
        net.link(a, b, 1);
    }

    /**
     * Messages that pile up in a full mesh of some routers, whose link of 0 and 1 is made anew some
     * times; older than these are some between 10 and 11, which are sent on to nobody.
     */
    private static BitNet crowd(int oldOnes, int routers, int times) {
        BitNet net = new BitNet();
        for (int n = 0; n < oldOnes; n += 2) {
            anew(net, 10, 11);
        }
        for (int a = 0; a < routers; a++) {
            for (int b = a + 1; b < routers; b++) {
                net.link(a, b, 1);
            }
        }
        for (int n = 0; n < times; n++) {
            anew(net, 0, 1);
        }
        return net;
    }

    private static void linksAtTheLimit() {
        BitNet net = crowd(30, 10, 45);
        int over = net.count(0) - 2000;
        Check.yes("some messages of 10 and 11 over 2000", over > 0 && over < 30);
        net.cut(2, 3);
        Check.same("these go nowhere from there", net.step(over), over);
        Check.same("2000 messages", net.count(0), 2000);
        Check.illegalState("link at 2000", () -> net.link(9, 10, 1));
        Check.illegalState("notice at 2000", () -> net.notice(2, 3));
        net.step(1);
        Check.same("1999 messages", net.count(0), 1999);
        net.notice(2, 3);
        Check.same("notice at 1999", net.count(0), 1999 + 8);
        net.step(8);
        net.link(9, 10, 1);
        Check.same("link at 1999", net.count(0), 1999 + 10 + 2 + 1);
    }

    private static void stepsToTheLimit() {
        BitNet net = crowd(2, 9, 50);
        net.step(1000);
        Check.same("just 3900", net.count(0), 3900);
        Check.illegalState("step at 3900", () -> net.step(1));
        Check.same("nothing was carried", net.count(0), 3900);
    }

    private static void tooManyMessages() {
        BitNet net = new BitNet();
        int calls = 0;
        for (int a = 0; a < 12; a++) {
            for (int b = a + 1; b < 12; b++) {
                net.link(a, b, 1);
                calls++;
            }
        }
        net.cut(0, 1);
        net.cut(2, 3);
        while (net.count(0) < 2000 && calls < 400) {
            net.notice(0, 1);
            net.notice(1, 0);
            if (net.count(0) < 2000) {
                net.link(0, 1, 1);
                net.cut(0, 1);
            }
            calls += 6;
        }
        Check.yes("2000 messages are on their way", net.count(0) >= 2000);
        int before = net.count(0);
        int own = net.stored(2, 2);
        Check.illegalState("notice", () -> net.notice(2, 3));
        Check.illegalState("notice with wrong arguments", () -> net.notice(-1, 3));
        Check.illegalState("link", () -> net.link(0, 1, 1));
        Check.illegalState("link with wrong arguments", () -> net.link(0, 0, -1));
        Check.same("nothing was sent", net.count(0), before);
        Check.same("nothing was unlearnt", net.stored(2, 2), own);
        int done = net.step(1000);
        Check.yes("fewer steps than 1000", done > 0 && done < 1000);
        Check.yes("3900 messages are on their way", net.count(0) >= 3900 && net.count(0) < 3910);
        int full = net.count(0);
        Check.illegalState("step", () -> net.step(1));
        Check.illegalState("step with a wrong argument", () -> net.step(0));
        Check.same("nothing was carried", net.count(0), full);
        Check.no("not settled", net.settled());
    }
}
