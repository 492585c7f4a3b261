/** Promises 17 to 22: send, sendBits, move, delivered, crossings, count. */
final class PacketTest {
    private PacketTest() {
    }

    public static void main(String[] args) {
        sends();
        packetsAreParted();
        copiesGoOldestFirst();
        bitsInNoMask();
        copiesOverCutLinks();
        copiesOverLinksMadeAnew();
        losingCopies();
        movingUntilNoneAreLeft();
        packetsExpire();
        eachCopyHasHopsOfItsOwn();
        expiringInParts();
        deliveredWithTheLastHop();
        counts();
        Check.end();
    }

    private static void sends() {
        BitNet net = Nets.line(2);
        net.ingress(3, 1);
        net.join(0, 3, 1);
        net.join(1, 3, 1);
        net.join(2, 3, 1);
        Check.same("its number", net.send(1, 3), 1);
        Check.same("the ingress has heard of nobody", net.delivered(1), 0);
        Check.same("no copies", net.count(1), 0);
        net.carry(2);
        Check.same("its number", net.send(1, 3), 2);
        Check.same("the ingress's own receivers", net.delivered(2), 2);
        Check.same("a copy to 0", net.count(1), 1);
        net.carry(1);
        Check.same("its number", net.send(1, 3), 3);
        Check.same("carried", net.move(1000), 3);
        Check.same("to whom it had heard of", net.delivered(2), 3);
        Check.same("to all", net.delivered(3), 7);
    }

    private static void packetsAreParted() {
        BitNet net = Nets.star();
        net.link(11, 10, 1);
        net.step(1000);
        Check.same("its number", net.sendBits(11, 0b110000000111), 1);
        Check.same("its own bit", net.delivered(1), 1 << 11);
        Check.same("one copy to 0, one to 10", net.count(1), 2);
        Check.same("crossed", net.crossings(1), 2);
        Check.same("moved", net.move(1), 1);
        Check.same("0 has it", net.delivered(1), 1 << 11 | 1);
        Check.same("copies to 10, 1 and 2", net.count(1), 3);
        Check.same("crossed", net.crossings(1), 4);
        Check.same("moved", net.move(1000), 3);
        Check.same("all have it", net.delivered(1), 0b110000000111);
        Check.same("crossed", net.crossings(1), 4);
        Check.same("a router that is no edge", net.count(6), 0);
        Check.same("a packet without bits", net.sendBits(0, 0), 2);
        Check.same("goes nowhere", net.crossings(2), 0);
        Check.same("and nothing is lost", net.count(6), 0);
    }

    private static void copiesGoOldestFirst() {
        BitNet net = Nets.star();
        net.sendBits(0, 0b1010);
        net.sendBits(0, 0b0110);
        net.move(1);
        Check.same("the lowest neighbour first", net.delivered(1), 0b0010);
        net.move(1);
        Check.same("then the next", net.delivered(1), 0b1010);
        Check.same("then the next packet", net.delivered(2), 0);
        net.move(1);
        Check.same("which comes to its lowest", net.delivered(2), 0b0010);
        net.sendBits(0, 0b1000);
        net.move(1);
        Check.same("a newer packet comes later", net.delivered(2), 0b0110);
        Check.same("one copy is left", net.count(1), 1);
    }

    private static void bitsInNoMask() {
        BitNet net = Nets.line(1);
        net.edge(5, 5);
        net.sendBits(0, 0b100111);
        Check.same("nobody's bit, and one that can't be reached", net.count(6), 2);
        Check.same("its own", net.delivered(1), 1);
        net.move(1);
        Check.same("the neighbour's", net.delivered(1), 3);
        net.sendBits(9, -1);
        Check.same("a router without anything", net.count(6), 34);
        Check.same("no copy", net.crossings(2), 0);
        // 1 has a way to 2 when the copy sets out from 0, but none when it comes.
        BitNet late = Nets.line(2);
        late.cut(1, 2);
        late.notice(1, 2);
        late.sendBits(0, 0b110);
        late.move(9);
        Check.same("delivered at 1", late.delivered(1), 2);
        Check.same("lost at 1", late.count(6), 1);
        Check.same("one link", late.crossings(1), 1);
    }

    private static void copiesOverCutLinks() {
        BitNet net = Nets.line(3);
        net.sendBits(0, 0b1110);
        net.move(1);
        net.cut(1, 2);
        Check.same("carried", net.move(5), 1);
        Check.same("lost with two bits", net.count(6), 2);
        Check.same("no messages are lost", net.count(7), 0);
        Check.same("1 had it", net.delivered(1), 2);
        Check.same("two copies set out", net.crossings(1), 2);
        net.sendBits(1, 0b1000);
        net.notice(1, 2);
        net.notice(2, 1);
        net.move(1);
        Check.same("the link is gone", net.count(6), 3);
        BitNet half = Nets.line(1);
        half.sendBits(0, 2);
        half.sendBits(1, 1);
        half.cut(0, 1);
        half.notice(0, 1);
        Check.same("both are carried", half.move(5), 2);
        Check.same("and lost, one end still knowing the link", half.count(6), 2);
    }

    private static void copiesOverLinksMadeAnew() {
        BitNet net = Nets.line(1);
        net.sendBits(0, 2);
        net.cut(0, 1);
        net.notice(0, 1);
        net.notice(1, 0);
        net.link(0, 1, 5);
        net.move(1);
        Check.same("it came over the new link", net.delivered(1), 2);
        Check.same("nothing is lost", net.count(6), 0);
    }

    private static void losingCopies() {
        BitNet net = Nets.line(3);
        net.sendBits(0, 0b1110);
        net.sendBits(3, 0b0111);
        Check.same("loses one", net.move(-1), 1);
        Check.same("the oldest, with its bits", net.count(6), 3);
        Check.same("carries the other", net.move(1000), 3);
        Check.same("the first one never came", net.delivered(1), 0);
        Check.same("though it set out", net.crossings(1), 1);
        Check.same("the second one came", net.delivered(2), 7);
        Check.same("nothing expired", net.count(5), 0);
    }

    // move: "less, if there are none left"; "1, or 0 if there is none"
    private static void movingUntilNoneAreLeft() {
        BitNet none = Nets.line(2);
        Check.same("none to move", none.move(1), 0);
        Check.same("none to move", none.move(1000), 0);
        Check.same("none to lose", none.move(-1), 0);
        Check.same("no bits are lost with none", none.count(6), 0);
        BitNet just = twoCopies();
        Check.same("as many as there are", just.move(2), 2);
        Check.same("none is left", just.move(1), 0);
        BitNet less = twoCopies();
        Check.same("one less", less.move(1), 1);
        Check.same("the other is lost", less.move(-1), 1);
        Check.same("with its bit", less.count(6), 1);
        Check.same("none to lose", less.move(-1), 0);
        Check.same("one came", less.delivered(1), 1);
        BitNet more = twoCopies();
        Check.same("one more", more.move(3), 2);
        Check.same("both came", more.delivered(1), 5);
        BitNet sentOn = Nets.line(3);
        sentOn.sendBits(0, 8);
        Check.same("those that set out meanwhile, too", sentOn.move(1000), 3);
        BitNet lost = twoCopies();
        lost.cut(0, 1);
        Check.same("lost ones are carried, too", lost.move(3), 2);
    }

    private static BitNet twoCopies() {
        BitNet net = Nets.line(2);
        net.sendBits(1, 5);
        Check.same("two copies", net.count(1), 2);
        return net;
    }

    private static void packetsExpire() {
        BitNet net = Nets.loop();
        Check.same("0 sends it to 1", net.mask(0, 1), 4);
        Check.same("1 sends it to 0", net.mask(1, 0), 4);
        net.sendBits(0, 4);
        Check.same("254 hops", net.move(254), 254);
        Check.same("it is on its way with 255", net.count(1), 1);
        Check.same("crossed", net.crossings(1), 255);
        Check.same("not expired", net.count(5), 0);
        Check.same("the last one", net.move(1000), 1);
        Check.same("it has expired", net.count(5), 1);
        Check.same("nothing is on its way", net.count(1), 0);
        Check.same("it did not set out again", net.crossings(1), 255);
        Check.same("what expires is not lost", net.count(6), 0);
        Check.same("nor delivered", net.delivered(1), 0);
        net.sendBits(0, 4);
        net.move(100);
        net.step(1000);
        Check.same("when 0 has heard it goes to 1, 0 and 2", net.move(1000), 3);
        Check.same("delivered", net.delivered(2), 4);
    }

    private static void eachCopyHasHopsOfItsOwn() {
        BitNet net = Nets.loop();
        net.sendBits(0, 4);
        net.move(100);
        net.sendBits(0, 4);
        net.sendBits(1, 4);
        Check.same("by turns, to 255 hops and twice 155", net.move(3 * 154), 3 * 154);
        Check.same("crossed by the first", net.crossings(1), 255);
        Check.same("crossed by the second", net.crossings(2), 155);
        Check.same("crossed by the third", net.crossings(3), 155);
        Check.same("none has expired", net.count(5), 0);
        net.move(1);
        Check.same("the first has", net.count(5), 1);
        Check.same("two are left", net.count(1), 2);
        Check.same("two by turns, to 255 hops", net.move(2 * 100), 2 * 100);
        Check.same("the others are on their way", net.count(5), 1);
        Check.same("the second", net.move(1), 1);
        Check.same("has expired", net.count(5), 2);
        Check.same("the third", net.move(1), 1);
        Check.same("has expired, too", net.count(5), 3);
        Check.same("none is left", net.move(1000), 0);
        Check.same("crossed by the second", net.crossings(2), 255);
        Check.same("crossed by the third", net.crossings(3), 255);
        Check.same("nothing is lost", net.count(6), 0);
    }

    private static void expiringInParts() {
        BitNet net = new BitNet();
        net.edge(1, 1);
        net.edge(2, 2);
        net.edge(3, 3);
        net.link(0, 1, 1);
        net.link(1, 2, 1);
        net.link(0, 2, 9);
        net.link(1, 3, 1);
        net.link(0, 3, 9);
        net.step(1000);
        net.cut(1, 2);
        net.notice(1, 2);
        net.cut(1, 3);
        net.notice(1, 3);
        net.sendBits(0, 0b1101100);
        Check.same("bits in no mask are lost at once", net.count(6), 2);
        Check.same("to and fro", net.move(253), 253);
        net.notice(3, 1);
        net.link(1, 3, 1);
        Check.same("to 0, which sends it to 1 with the 255th hop", net.move(1), 1);
        Check.same("1 would part it between 0 and 3", net.mask(1, 0), 4);
        Check.same("1 would part it between 0 and 3", net.mask(1, 3), 8);
        net.move(1);
        Check.same("each of the two copies expires", net.count(5), 2);
        Check.same("no more bits are lost", net.count(6), 2);
        Check.same("no more links are crossed", net.crossings(1), 255);
    }

    private static void deliveredWithTheLastHop() {
        BitNet net = Nets.loop();
        net.sendBits(0, 4);
        net.move(253);
        net.step(1000);
        Check.same("0 has heard of the cut", net.mask(0, 2), 4);
        net.move(1);
        Check.same("it set out to 2 with the 255th hop", net.crossings(1), 255);
        net.move(1);
        Check.same("where it is delivered", net.delivered(1), 4);
        Check.same("and does not expire", net.count(5), 0);
    }

    private static void counts() {
        BitNet net = Nets.line(1);
        net.ingress(0, 0);
        net.link(1, 2, 1);
        net.join(1, 0, 1);
        net.sendBits(0, 0b111);
        Check.same("messages: 1's two, 2's one, 1's store", net.count(0), 4);
        Check.same("copies", net.count(1), 1);
        Check.same("notes", net.count(2), 1);
        Check.same("packets", net.count(3), 1);
        Check.same("delivered", net.count(4), 1);
        Check.same("expired", net.count(5), 0);
        Check.same("bits lost", net.count(6), 1);
        Check.same("messages lost", net.count(7), 0);
        Check.same("another", net.count(8), -1);
        Check.same("another", net.count(-1), -1);
        Check.same("another", net.count(Integer.MAX_VALUE), -1);
        Check.same("another", net.count(Integer.MIN_VALUE), -1);
        net.move(1);
        net.carry(1);
        net.cut(0, 1);
        net.step(1);
        Check.same("copies", net.count(1), 0);
        Check.same("notes", net.count(2), 0);
        Check.same("delivered", net.count(4), 2);
        Check.same("messages lost", net.count(7), 1);
    }
}
