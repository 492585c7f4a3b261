/** Promises 8 to 10: mask, distance, alternate. */
final class RouteTest {
    private RouteTest() {
    }

    public static void main(String[] args) {
        masks();
        lowestNextHop();
        distances();
        weightsThatDiffer();
        linksThatOneEndTellsOf();
        alternates();
        alternatesOfEqualWays();
        Check.end();
    }

    private static void masks() {
        BitNet net = Nets.line(3);
        Check.same("mask(0, 1)", net.mask(0, 1), 0b1110);
        Check.same("mask(1, 0)", net.mask(1, 0), 0b0001);
        Check.same("mask(1, 2)", net.mask(1, 2), 0b1100);
        Check.same("mask(3, 2)", net.mask(3, 2), 0b0111);
        Check.same("no neighbour", net.mask(0, 2), 0);
        Check.same("nor is it one of its own", net.mask(0, 0), 0);
        net.edge(7, 7);
        Check.same("no way leads to 7", net.mask(0, 1), 0b1110);
        net.link(3, 4, 1);
        net.edge(4, 31);
        Check.same("not yet heard of", net.mask(0, 1), 0b1110);
        net.step(1000);
        Check.same("heard of", net.mask(0, 1), 0b1110 | 1 << 31);
        net.cut(0, 1);
        net.notice(0, 1);
        net.notice(1, 0);
        Check.same("no neighbour any more", net.mask(0, 1), 0);
        Check.same("nor the other way", net.mask(1, 0), 0);
        Check.same("the other one still is", net.mask(1, 2), 0b1100 | 1 << 31);
    }

    private static void lowestNextHop() {
        BitNet net = new BitNet();
        net.edge(3, 3);
        net.edge(4, 4);
        net.link(0, 2, 1);
        net.link(0, 1, 1);
        net.link(1, 3, 2);
        net.link(2, 3, 2);
        net.link(2, 4, 1);
        net.link(1, 4, 2);
        net.step(1000);
        Check.same("of equal ways the lowest neighbour", net.mask(0, 1), 8);
        Check.same("of unequal ways the least", net.mask(0, 2), 16);
        BitNet direct = new BitNet();
        direct.edge(3, 3);
        direct.link(0, 3, 4);
        direct.link(0, 1, 1);
        direct.link(1, 2, 1);
        direct.link(2, 3, 2);
        direct.step(1000);
        Check.same("a lower neighbour over three links", direct.mask(0, 1), 8);
        Check.same("not the receiver itself", direct.mask(0, 3), 0);
        // The lowest first hop joins late on the way: 0 - 5 - 6 - 7 and 0 - 1 - 6.
        BitNet late = new BitNet();
        late.edge(7, 7);
        late.link(0, 5, 1);
        late.link(5, 6, 2);
        late.link(6, 7, 1);
        late.link(0, 1, 2);
        late.link(1, 6, 1);
        late.step(1000);
        Check.same("the lowest of all first hops", late.mask(0, 1), 128);
        Check.same("not the nearest", late.mask(0, 5), 0);
    }

    private static void distances() {
        BitNet net = new BitNet();
        net.link(0, 1, 1000);
        net.link(1, 2, 1000);
        net.link(0, 3, 1);
        net.link(3, 4, 1);
        net.link(4, 2, 1);
        net.step(1000);
        Check.same("many light links", net.distance(0, 2), 3);
        Check.same("one heavy link", net.distance(0, 1), 1000);
        Check.same("to itself", net.distance(4, 4), 0);
        Check.same("no way", net.distance(4, 5), -1);
        Check.same("no way from there", net.distance(5, 4), -1);
        BitNet whole = Nets.line(11);
        Check.same("the longest way", whole.distance(0, 11), 11);
        Check.same("and back", whole.distance(11, 0), 11);
    }

    private static void weightsThatDiffer() {
        BitNet net = new BitNet();
        net.link(0, 1, 3);
        net.step(1000);
        net.cut(0, 1);
        net.notice(0, 1);
        net.notice(1, 0);
        net.link(0, 1, 8);
        // Each end has its own new weight and the other's old one.
        Check.same("0 tells 8", net.distance(0, 1), 8);
        Check.same("1 tells 8", net.distance(1, 0), 8);
        net.step(1000);
        Check.same("all tell 8", net.distance(0, 1), 8);
        BitNet far = new BitNet();
        far.link(0, 1, 1);
        far.link(1, 2, 3);
        far.step(1000);
        far.cut(1, 2);
        far.notice(1, 2);
        far.step(1000);
        far.notice(2, 1);
        far.link(2, 1, 8);
        // 1 to 0 and 2, then 2 to 1, then 1's store to 2, then 2's to 1.
        far.step(1);
        Check.same("the weight that 1 tells, 2's being the old one", far.distance(0, 2), 9);
        Check.same("at 2, 1's being the old one", far.distance(2, 0), 9);
        far.step(1000);
        Check.same("settled", far.distance(2, 0), 9);
    }

    private static void linksThatOneEndTellsOf() {
        BitNet net = new BitNet();
        net.edge(0, 0);
        net.edge(2, 2);
        net.link(0, 1, 1);
        net.step(1000);
        net.link(1, 2, 1);
        net.step(1);
        Check.same("0 has heard of it from 1", net.stored(0, 1), 2);
        Check.same("but not from 2", net.distance(0, 2), -1);
        Check.same("nor is it in a mask", net.mask(0, 1), 0);
        Check.same("1 has not heard from 2", net.mask(1, 2), 0);
        net.step(1000);
        Check.same("heard from both", net.distance(0, 2), 2);
        Check.same("in the mask", net.mask(0, 1), 4);
        net.cut(1, 2);
        net.notice(2, 1);
        Check.same("2 tells no more of it", net.distance(2, 1), -1);
        Check.same("1 still does", net.distance(1, 2), 1);
    }

    private static void alternates() {
        BitNet net = new BitNet();
        net.link(0, 1, 1);
        net.link(1, 2, 1);
        net.link(2, 0, 1);
        net.link(2, 3, 1);
        net.step(1000);
        Check.same("over 1", net.alternate(0, 3), 1);
        Check.same("over 0, the lowest of all", net.alternate(1, 3), 0);
        Check.same("2 is the next hop, 1 reaches it without 0", net.alternate(0, 2), 1);
        Check.same("3 has no other neighbour than its next hop", net.alternate(3, 0), -1);
        Check.same("to itself", net.alternate(0, 0), -1);
        Check.same("no way", net.alternate(0, 4), -1);
        BitNet ring = new BitNet();
        ring.link(0, 1, 1);
        ring.link(1, 2, 1);
        ring.link(2, 3, 1);
        ring.link(3, 0, 1);
        ring.step(1000);
        Check.same("3's way to 1 may go over 0", ring.alternate(0, 1), -1);
        Check.same("the next hop is 1, the other is 3", ring.alternate(0, 2), 3);
        Check.same("the next hop is 0, the other is 2", ring.alternate(3, 1), 2);
    }

    private static void alternatesOfEqualWays() {
        // From 4 to 1: over 0 itself 4 + 1, directly 5: equal, so not all of its ways keep away.
        BitNet net = new BitNet();
        net.link(0, 1, 1);
        net.link(0, 4, 4);
        net.link(4, 1, 5);
        net.step(1000);
        Check.same("one of its ways goes over 0", net.alternate(0, 1), -1);
        net.cut(4, 1);
        net.notice(4, 1);
        net.notice(1, 4);
        net.link(4, 1, 4);
        net.step(1000);
        Check.same("no way goes over 0", net.alternate(0, 1), 4);
        // The receiver itself may be it, and of several it is the lowest.
        BitNet several = new BitNet();
        several.link(0, 3, 1);
        several.link(0, 5, 9);
        several.link(3, 5, 1);
        several.step(1000);
        Check.same("the receiver itself", several.alternate(0, 5), 5);
        several.link(0, 4, 9);
        several.link(4, 5, 9);
        several.step(1000);
        Check.same("the lowest one", several.alternate(0, 5), 4);
        several.link(0, 2, 9);
        Check.same("not one that has not told", several.alternate(0, 5), 4);
        several.step(1000);
        Check.same("not one whose ways go over 0", several.alternate(0, 5), 4);
    }
}
