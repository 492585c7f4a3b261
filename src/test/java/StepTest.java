/** Promises 6, 7 and 11: step, settled, stored. */
final class StepTest {
    private StepTest() {
    }

    public static void main(String[] args) {
        steps();
        stepsUntilNoneAreLeft();
        messagesOverCutLinksAreLost();
        messagesGoOverLinksMadeAnew();
        lowerNumbersAreAnswered();
        settledOrNot();
        notSettledThoughAllIsTold();
        settledInParts();
        sameNumbersAreNotSentOn();
        messagesStayInOrder();
        Check.end();
    }

    private static void steps() {
        BitNet net = new BitNet();
        Check.same("no messages", net.step(1), 0);
        net.link(0, 1, 1);
        net.link(1, 2, 1);
        // 0>1, 1>0, then 1 (of number 2) >0 and >2, then 2>1.
        Check.same("five messages", net.count(0), 5);
        Check.same("step(2)", net.step(2), 2);
        Check.same("0's went on to 2", net.count(0), 4);
        Check.same("1's of number 1", net.stored(0, 1), 1);
        Check.same("step(1)", net.step(1), 1);
        Check.same("1's of number 2", net.stored(0, 1), 2);
        Check.same("0 has nobody to send it on to", net.count(0), 3);
        Check.same("less than 1000 are left", net.step(1000), 4);
        Check.same("0 heard of 2", net.stored(0, 2), 1);
        Check.same("2 heard of 0", net.stored(2, 0), 1);
        Check.same("none are left", net.step(1000), 0);
    }

    // step: "less, if there are none left"
    private static void stepsUntilNoneAreLeft() {
        BitNet just = twoMessages();
        Check.same("as many as there are", just.step(2), 2);
        Check.same("none is left", just.step(1), 0);
        BitNet less = twoMessages();
        Check.same("one less", less.step(1), 1);
        Check.same("the last one", less.step(1), 1);
        BitNet more = twoMessages();
        Check.same("one more", more.step(3), 2);
        // 1 sends 0's on to 2, so that there are more in the end than when it began.
        BitNet sentOn = new BitNet();
        sentOn.link(0, 1, 1);
        sentOn.link(1, 2, 1);
        Check.same("messages", sentOn.count(0), 5);
        Check.same("one of them is sent on, 2's to 0, too", sentOn.step(1000), 7);
        BitNet lost = twoMessages();
        lost.cut(0, 1);
        Check.same("lost ones are carried, too", lost.step(3), 2);
    }

    private static BitNet twoMessages() {
        BitNet net = new BitNet();
        net.link(0, 1, 1);
        Check.same("two messages", net.count(0), 2);
        return net;
    }

    private static void messagesOverCutLinksAreLost() {
        BitNet net = new BitNet();
        net.link(0, 1, 1);
        net.cut(0, 1);
        Check.same("both are carried", net.step(5), 2);
        Check.same("and lost", net.count(7), 2);
        Check.same("nothing came", net.stored(1, 0), 0);
        BitNet gone = new BitNet();
        gone.link(0, 1, 1);
        gone.cut(0, 1);
        gone.notice(0, 1);
        gone.notice(1, 0);
        Check.same("both are carried", gone.step(5), 2);
        Check.same("and lost, the link being gone", gone.count(7), 2);
        BitNet half = new BitNet();
        half.link(0, 1, 1);
        half.cut(0, 1);
        half.notice(0, 1);
        Check.same("both are carried", half.step(5), 2);
        Check.same("and lost, one end still knowing the link", half.count(7), 2);
        BitNet known = new BitNet();
        known.link(0, 1, 1);
        known.step(5);
        known.cut(0, 1);
        known.link(1, 2, 1);
        // 1 to 0 and 2, 2 to 1, 1's store of 0 to 2.
        Check.same("to the cut link that it knows, too", known.count(0), 4);
        known.step(1);
        Check.same("which loses it", known.count(7), 1);
    }

    private static void messagesGoOverLinksMadeAnew() {
        BitNet net = new BitNet();
        net.link(0, 1, 1);
        net.cut(0, 1);
        net.notice(0, 1);
        net.notice(1, 0);
        net.link(0, 1, 2);
        net.step(1);
        Check.same("the old message came over the new link", net.stored(1, 0), 1);
        Check.same("and none was lost", net.count(7), 0);
        net.step(1000);
        Check.same("the latest one", net.stored(1, 0), 3);
        Check.same("its weight", net.distance(1, 0), 2);
    }

    private static void lowerNumbersAreAnswered() {
        BitNet net = new BitNet();
        net.link(0, 1, 1);
        net.step(1000);
        net.link(1, 2, 1);
        net.step(1000);
        // 0 is cut off and misses what 1 tells; it comes back over 2 with an old one of 1.
        net.cut(0, 1);
        net.notice(1, 0);
        net.notice(0, 1);
        net.step(1000);
        Check.same("0 has an old one of 1", net.stored(0, 1), 2);
        Check.same("2 has a new one of 1", net.stored(2, 1), 3);
        net.link(0, 2, 1);
        // 0 to 2; 2 to 0 and 1; 0's store: 1, 2; 2's store: 0, 1.
        Check.same("sent by the link", net.count(0), 1 + 2 + 2 + 2);
        Check.same("0's, 2's two", net.step(3), 3);
        // 2 sent on 0's to 1; 0 and 1 had nobody to send 2's on to.
        Check.same("0's store, 2's store, 0's to 1", net.count(0), 5);
        net.step(1);
        Check.same("the old one of 1 is answered by the new one", net.count(0), 5);
        net.step(1);
        Check.same("the old one of 2 by 2's own latest", net.count(0), 5);
        // Left: 0's of number 1 and 1's of number 3 to 0, 0's to 1, and the two answers.
        net.step(1);
        Check.same("the old one of 0 by 0's own latest", net.count(0), 5);
        net.step(1);
        Check.same("1's of number 3 is new to 0", net.stored(0, 1), 3);
        Check.same("and goes nowhere", net.count(0), 4);
        net.step(1000);
        Check.yes("all have the same", net.settled());
        Check.same("the way is over 2", net.distance(0, 1), 2);
    }

    private static void settledOrNot() {
        BitNet net = new BitNet();
        net.link(0, 1, 1);
        Check.no("messages are on their way", net.settled());
        net.step(1);
        Check.no("a message is on its way", net.settled());
        net.step(1);
        Check.yes("none, and the same stores", net.settled());
        net.link(1, 2, 1);
        net.cut(1, 2);
        net.step(1000);
        Check.yes("2 hangs together with nobody", net.settled());
        net.notice(1, 2);
        Check.no("the message to 0", net.settled());
        net.cut(0, 1);
        net.step(1000);
        Check.same("which is lost", net.count(0), 0);
        Check.yes("all are alone", net.settled());
    }

    // "Whether no message is on its way, and ...": the stores alone do not settle it.
    private static void notSettledThoughAllIsTold() {
        BitNet net = new BitNet();
        net.link(0, 1, 1);
        net.link(1, 2, 1);
        net.link(0, 2, 1);
        net.step(1000);
        net.cut(0, 1);
        net.notice(0, 1);
        net.notice(1, 0);
        // 0 to 2 and 1 to 2, of which 2 tells 1 and 0; nothing is new to 2 then.
        Check.same("carried", net.step(3), 3);
        Check.same("the last one is on its way", net.count(0), 1);
        Check.no("settled", net.settled());
        net.step(1);
        Check.yes("settled", net.settled());
        BitNet mesh = new BitNet();
        mesh.link(0, 1, 1);
        mesh.link(1, 2, 1);
        mesh.link(0, 2, 1);
        mesh.step(1000);
        mesh.link(0, 3, 1);
        mesh.cut(0, 3);
        // 0 to 1 and 2, who tell each other what both have by then; four between 0 and 3 are lost.
        mesh.step(6);
        Check.same("stored at 1", mesh.stored(1, 0), 3);
        Check.same("stored at 2", mesh.stored(2, 0), 3);
        Check.same("stored at 0", mesh.stored(0, 0), 3);
        Check.same("1 and 2 tell each other", mesh.count(0), 2);
        Check.no("two messages are on their way", mesh.settled());
        mesh.step(1);
        Check.no("one message is on its way", mesh.settled());
        mesh.step(1);
        Check.yes("none is", mesh.settled());
    }

    private static void settledInParts() {
        BitNet net = new BitNet();
        net.link(0, 1, 1);
        net.link(2, 3, 1);
        net.step(1000);
        Check.yes("two parts with stores of their own", net.settled());
        net.link(1, 2, 1);
        net.cut(1, 2);
        net.step(1000);
        Check.same("lost: 1's and 2's, and both stores", net.count(7), 4);
        Check.yes("the parts agree within themselves", net.settled());
        BitNet apart = new BitNet();
        apart.link(0, 1, 1);
        apart.step(1000);
        apart.link(1, 2, 1);
        apart.cut(0, 1);
        apart.step(1000);
        apart.notice(0, 1);
        apart.notice(1, 0);
        apart.step(1000);
        apart.link(0, 1, 1);
        Check.no("news is on its way", apart.settled());
        apart.step(1000);
        Check.yes("the news came", apart.settled());
    }

    private static void sameNumbersAreNotSentOn() {
        BitNet net = new BitNet();
        net.link(0, 1, 1);
        net.link(1, 2, 1);
        net.link(0, 2, 1);
        net.step(1000);
        net.link(0, 3, 1);
        // 0 to 1, 2 and 3; 3 to 0; 0's store of 1 and 2 to 3.
        Check.same("sent", net.count(0), 6);
        net.step(3);
        // 1 and 2 sent 0's on to each other.
        Check.same("sent on", net.count(0), 5);
        net.step(3);
        // 0 sent 3's on to 1 and 2; 3 had nobody to send on to.
        Check.same("sent on", net.count(0), 4);
        net.step(2);
        Check.same("0's are of the same number as what they have", net.count(0), 2);
        Check.same("3's go on between 1 and 2", net.step(1000), 4);
    }

    private static void messagesStayInOrder() {
        BitNet net = new BitNet();
        net.link(0, 1, 1);
        for (int n = 2; n <= 9; n++) {
            Nets.anew(net, 0, 1);
        }
        Check.same("two a time", net.count(0), 18);
        net.step(5);
        Check.same("0's third", net.stored(1, 0), 5);
        Check.same("1's second", net.stored(0, 1), 3);
        for (int n = 1; n <= 30; n++) {
            Nets.anew(net, 0, 1);
        }
        // Each time a number is told and the next one, that of the unlearning, is told to nobody;
        // from the tenth on both send what they have of each other, too.
        Check.same("four a time", net.count(0), 13 + 30 * 4);
        net.step(13);
        Check.same("0's ninth", net.stored(1, 0), 17);
        Check.same("1's ninth", net.stored(0, 1), 17);
        net.step(2);
        Check.same("0's tenth", net.stored(1, 0), 19);
        Check.same("1's tenth", net.stored(0, 1), 19);
        net.step(1000);
        Check.same("0's last", net.stored(1, 0), 77);
        Check.same("1's last", net.stored(0, 1), 77);
        Check.same("none is lost", net.count(7), 0);
    }
}
