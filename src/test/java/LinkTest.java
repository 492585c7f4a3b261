/** Promises 1 to 5: a new object, edge, link, cut, notice. */
final class LinkTest {
    private LinkTest() {
    }

    public static void main(String[] args) {
        newObject();
        edges();
        newLinks();
        storesAreSentOverNewLinks();
        cuts();
        notices();
        noticesAdvertiseToTheRest();
        linksMadeAnew();
        advertisementsToTheLastCall();
        Check.end();
    }

    private static void newObject() {
        BitNet net = new BitNet();
        for (int what = 0; what < 8; what++) {
            Check.same("count(" + what + ") when new", net.count(what), 0);
        }
        Check.yes("settled() when new", net.settled());
        Check.same("no message", net.step(1000), 0);
        Check.same("no note", net.carry(1000), 0);
        Check.same("no copy", net.move(1000), 0);
        // Two objects, since one is used for 512 calls.
        BitNet other = new BitNet();
        for (int r = 0; r < 12; r++) {
            for (int m = 0; m < 12; m++) {
                Check.same("stored when new", net.stored(r, m), 0);
                Check.same("distance when new", net.distance(r, m), r == m ? 0 : -1);
                Check.same("mask when new", other.mask(r, m), 0);
                Check.same("alternate when new", other.alternate(r, m), -1);
            }
        }
        for (int group = 0; group < 8; group++) {
            Check.same("bits when new", net.bits(group), 0);
        }
        Check.illegalArgument("no packet when new", () -> net.delivered(1));
        for (int r = 0; r < 12; r++) {
            int at = r;
            Check.illegalArgument("no edge when new", () -> net.report(at));
            Check.illegalArgument("no link when new", () -> net.cut(at, (at + 1) % 12));
        }
    }

    private static void edges() {
        BitNet net = new BitNet();
        net.edge(0, 0);
        net.edge(11, 31);
        net.sendBits(11, -1);
        Check.same("the highest bit is delivered", net.delivered(1), 1 << 31);
        net.sendBits(0, -1);
        Check.same("the lowest bit is delivered", net.delivered(2), 1);
        net.sendBits(5, -1);
        Check.same("no edge yet", net.delivered(3), 0);
        net.edge(5, 17);
        net.sendBits(5, -1);
        Check.same("an edge from now on", net.delivered(4), 1 << 17);
        BitNet late = new BitNet();
        late.link(0, 1, 1);
        late.step(9);
        Check.same("no bit in the mask yet", late.mask(0, 1), 0);
        late.edge(1, 4);
        Check.same("a late edge is in the mask", late.mask(0, 1), 16);
    }

    private static void newLinks() {
        BitNet net = new BitNet();
        net.link(5, 2, 1000);
        Check.same("both advertise", net.count(0), 2);
        Check.same("2 has its own", net.stored(2, 2), 1);
        Check.same("5 has its own", net.stored(5, 5), 1);
        Check.same("2 has none of 5", net.stored(2, 5), 0);
        Check.same("one step", net.step(1), 1);
        Check.same("the lower one's came first", net.stored(5, 2), 1);
        Check.same("the higher one's is on its way", net.stored(2, 5), 0);
        Check.same("one more step", net.step(9), 1);
        Check.same("the higher one's came", net.stored(2, 5), 1);
        Check.same("distance", net.distance(5, 2), 1000);
        Check.same("distance back", net.distance(2, 5), 1000);
        net.link(5, 7, 1);
        Check.same("5 has advertised again", net.stored(5, 5), 2);
        // 5 to 2 and 7, 7 to 5, then 2's by 5 to 7.
        Check.same("advertisements and a store", net.count(0), 4);
        net.step(1);
        Check.same("the lowest neighbour first", net.stored(2, 5), 2);
        Check.same("then the next", net.stored(7, 5), 0);
        net.step(1);
        Check.same("now it is there", net.stored(7, 5), 2);
    }

    private static void storesAreSentOverNewLinks() {
        BitNet net = new BitNet();
        net.link(1, 3, 1);
        net.link(0, 3, 1);
        net.link(2, 4, 1);
        net.step(1000);
        net.link(3, 2, 1);
        // 2 to 3 and 4; 3 to 0, 1 and 2; 2's store of 4; 3's store of 0 and 1.
        Check.same("all that are sent", net.count(0), 2 + 3 + 1 + 2);
        net.step(5);
        Check.same("3 has none of 4", net.stored(3, 4), 0);
        net.step(1);
        Check.same("the lower one's store first", net.stored(3, 4), 1);
        Check.same("2 has none of 0", net.stored(2, 0), 0);
        net.step(1);
        Check.same("in the order of routers", net.stored(2, 0), 1);
        Check.same("2 has none of 1", net.stored(2, 1), 0);
        net.step(1);
        Check.same("and the next", net.stored(2, 1), 1);
        net.step(1000);
        Check.yes("settled", net.settled());
    }

    private static void cuts() {
        BitNet net = new BitNet();
        net.link(1, 2, 5);
        net.step(9);
        net.cut(2, 1);
        Check.same("nobody says so", net.count(0), 0);
        Check.same("nobody knows", net.distance(1, 2), 5);
        Check.same("nobody advertised", net.stored(1, 1), 1);
        Check.same("nobody advertised", net.stored(2, 2), 1);
    }

    private static void notices() {
        BitNet net = new BitNet();
        net.link(1, 2, 5);
        net.step(9);
        net.cut(1, 2);
        net.notice(1, 2);
        Check.same("it advertised", net.stored(1, 1), 2);
        Check.same("it knows no neighbour to tell", net.count(0), 0);
        Check.same("it has no way any more", net.distance(1, 2), -1);
        Check.same("the other one has", net.distance(2, 1), 5);
        net.notice(2, 1);
        Check.same("the other one, too", net.distance(2, 1), -1);
    }

    private static void noticesAdvertiseToTheRest() {
        BitNet net = Nets.star();
        net.cut(0, 5);
        net.notice(0, 5);
        Check.same("to all but the unlearnt one", net.count(0), 10);
        net.step(1);
        Check.same("the lowest first", net.stored(1, 0), 12);
        Check.same("then the others", net.stored(11, 0), 11);
        net.step(1000);
        Check.same("all have it", net.stored(11, 0), 12);
        Check.same("but the one cut off", net.stored(5, 0), 11);
        Check.same("which is no more reached", net.distance(11, 5), -1);
    }

    private static void linksMadeAnew() {
        BitNet net = Nets.line(2);
        net.cut(1, 2);
        net.notice(2, 1);
        net.notice(1, 2);
        net.step(1000);
        Check.same("no way", net.distance(0, 2), -1);
        net.link(2, 1, 7);
        net.step(1000);
        Check.same("the new weight", net.distance(0, 2), 8);
        Check.same("numbers go on: 1 at 0-1, 1-2, unlearning, 1-2", net.stored(0, 1), 4);
        Check.same("numbers go on: 1-2, unlearning, 1-2", net.stored(0, 2), 3);
        Check.yes("settled", net.settled());
    }

    // "An object is used for at most 512 calls": these make more than one advertisement each.
    private static void advertisementsToTheLastCall() {
        BitNet net = Nets.crowd(10, 0);
        net.link(10, 11, 1);
        for (int n = 0; n < 116; n++) {
            Nets.anew(net, 10, 11);
        }
        // 45 + 1 + 4 * 116 calls until now.
        Check.same("each time two more", net.stored(10, 10), 1 + 2 * 116);
        Check.same("each time two more", net.stored(11, 11), 1 + 2 * 116);
    }
}
