/**
 * Multicast by bits: packets carry sets of receivers, routers part them by shortest paths that
 * they reckon from advertisements, and groups are counted at the edges.
 */
public final class BitNet {
    private static final int ROUTERS = 12;
    private static final int BITS = 32;
    private static final int GROUPS = 8;
    private static final int MOST_WEIGHT = 1000;
    private static final int MOST_RECEIVERS = 100;
    private static final int MOST_TURNS = 1000;
    private static final int MOST_HOPS = 255;
    private static final int MOST_PACKETS = 900;
    private static final int MOST_ON_THE_WAY = 4000;
    private static final int CROWDED = 3900;
    private static final int CROWDED_FOR_LINKS = 2000;
    // 512 calls make at most two advertisements each; the first row stands for none.
    private static final int MOST_ADVERTS = 1 + 2 * 512;
    private static final int LOSE_ONE = -1;
    private static final int NONE = -1;

    private final Edges edges = new Edges();
    private final Links links = new Links();
    private final Stores stores = new Stores();
    private final Control control = new Control(links, stores);
    private final Routes routes = new Routes(stores, edges);
    private final Data data = new Data(links, edges, routes);
    private final Groups groups = new Groups(edges);

    public BitNet() {
    }

    public void edge(int r, int bit) throws IllegalArgumentException {
        demand(isRouter(r) && bit >= 0 && bit < BITS);
        demand(!edges.isEdge(r) && !edges.isTaken(1 << bit));
        edges.make(r, 1 << bit);
    }

    public void link(int a, int b, int weight)
            throws IllegalStateException, IllegalArgumentException {
        demandRoom(control.hasRoomForLinks());
        demand(isRouter(a) && isRouter(b) && a != b);
        demand(weight >= 1 && weight <= MOST_WEIGHT && !links.exists(a, b));
        links.make(a, b, weight);
        control.greet(Math.min(a, b), Math.max(a, b));
    }

    public void cut(int a, int b) throws IllegalArgumentException {
        demand(isRouter(a) && isRouter(b) && links.isWhole(a, b));
        links.sever(a, b);
    }

    public void notice(int r, int neighbour)
            throws IllegalStateException, IllegalArgumentException {
        demandRoom(control.hasRoomForLinks());
        demand(isRouter(r) && isRouter(neighbour));
        demand(links.isKnown(r, neighbour) && links.isCut(r, neighbour));
        links.unlearn(r, neighbour);
        control.advertise(r);
    }

    public int step(int n) throws IllegalStateException, IllegalArgumentException {
        demandRoom(control.onTheWay() < CROWDED);
        demand(isNumberOfTurns(n));
        int done = 0;
        while (done < n && control.onTheWay() > 0 && control.onTheWay() < CROWDED) {
            control.deliverOldest();
            done++;
        }
        return done;
    }

    public boolean settled() {
        return control.onTheWay() == 0 && control.neighboursAgree();
    }

    public int mask(int r, int neighbour) throws IllegalArgumentException {
        demand(isRouter(r) && isRouter(neighbour));
        return routes.masksOf(r)[neighbour];
    }

    public int distance(int r, int other) throws IllegalArgumentException {
        demand(isRouter(r) && isRouter(other));
        return routes.lengthOfWay(r, other);
    }

    public int alternate(int r, int d) throws IllegalArgumentException {
        demand(isRouter(r) && isRouter(d));
        return routes.spareNeighbour(r, d);
    }

    public int stored(int r, int other) throws IllegalArgumentException {
        demand(isRouter(r) && isRouter(other));
        return stores.numberOf(stores.advertOf(r, other));
    }

    public void ingress(int group, int edge) throws IllegalArgumentException {
        demand(isGroup(group) && isEdge(edge) && groups.isIdle(group));
        groups.appoint(group, edge);
    }

    public int join(int edge, int group, int change)
            throws IllegalStateException, IllegalArgumentException {
        demand(isEdge(edge) && isGroup(group) && (change == 1 || change == -1));
        int receivers = groups.receiversOf(edge, group) + change;
        demand(receivers >= 0 && receivers <= MOST_RECEIVERS);
        demandRoom(groups.hasRoomForCount(edge, group, receivers));
        groups.recount(edge, group, receivers);
        return receivers;
    }

    public void report(int edge) throws IllegalStateException, IllegalArgumentException {
        demandRoom(groups.onTheWay() < CROWDED);
        demand(isEdge(edge));
        groups.tellAll(edge);
    }

    public int carry(int n) throws IllegalArgumentException {
        demand(n == LOSE_ONE || isNumberOfTurns(n));
        if (n == LOSE_ONE) {
            return groups.loseOldest();
        }
        int done = 0;
        while (done < n && groups.onTheWay() > 0) {
            groups.deliverOldest();
            done++;
        }
        return done;
    }

    public int bits(int group) throws IllegalArgumentException {
        demand(isGroup(group));
        return groups.heardOf(group);
    }

    public int send(int edge, int group) throws IllegalStateException, IllegalArgumentException {
        demand(isRouter(edge) && isGroup(group) && groups.ingressOf(group) == edge);
        int set = groups.heardOf(group);
        demandRoom(data.hasRoomFor(edge, set));
        return data.start(edge, set);
    }

    public int sendBits(int r, int bits) throws IllegalStateException, IllegalArgumentException {
        demand(isRouter(r));
        demandRoom(data.hasRoomFor(r, bits));
        return data.start(r, bits);
    }

    public int move(int n) throws IllegalStateException, IllegalArgumentException {
        demandRoom(n == LOSE_ONE || data.onTheWay() < CROWDED);
        demand(n == LOSE_ONE || isNumberOfTurns(n));
        if (n == LOSE_ONE) {
            return data.loseOldest();
        }
        int done = 0;
        while (done < n && data.onTheWay() > 0 && data.onTheWay() < CROWDED) {
            data.deliverOldest();
            done++;
        }
        return done;
    }

    public int delivered(int packet) throws IllegalArgumentException {
        demand(isPacket(packet));
        return data.bitsDelivered(packet);
    }

    public int crossings(int packet) throws IllegalArgumentException {
        demand(isPacket(packet));
        return data.linksCrossed(packet);
    }

    public int count(int what) {
        switch (what) {
            case 0:
                return control.onTheWay();
            case 1:
                return data.onTheWay();
            case 2:
                return groups.onTheWay();
            case 3:
                return data.packetsSoFar();
            case 4:
                return data.copiesDelivered();
            case 5:
                return data.copiesExpired();
            case 6:
                return data.bitsLost();
            case 7:
                return control.messagesLost();
            default:
                return NONE;
        }
    }

    private static void demand(boolean fits) {
        if (!fits) {
            throw new IllegalArgumentException("the document does not allow these arguments");
        }
    }

    private static void demandRoom(boolean room) {
        if (!room) {
            throw new IllegalStateException("too much is on its way");
        }
    }

    private static boolean isRouter(int r) {
        return r >= 0 && r < ROUTERS;
    }

    private static boolean isGroup(int group) {
        return group >= 0 && group < GROUPS;
    }

    private static boolean isNumberOfTurns(int n) {
        return n >= 1 && n <= MOST_TURNS;
    }

    private boolean isEdge(int r) {
        return isRouter(r) && edges.isEdge(r);
    }

    private boolean isPacket(int packet) {
        return packet >= 1 && packet <= data.packetsSoFar();
    }

    /** Rows of ints in the order of their coming; they leave at the front alone. */
    private static final class Rows {
        private static final int ROWS_AT_FIRST = 16;

        private final int width;
        private int[] cells;
        private int oldest;
        private int size;

        Rows(int width) {
            this.width = width;
            this.cells = new int[width * ROWS_AT_FIRST];
        }

        int size() {
            return size;
        }

        int get(int row, int column) {
            return cells[cellOf(row, column)];
        }

        void set(int row, int column, int value) {
            cells[cellOf(row, column)] = value;
        }

        /** Adds a row of zeros and answers where it stands. */
        int add() {
            if (size * width == cells.length) {
                grow();
            }
            for (int column = 0; column < width; column++) {
                set(size, column, 0);
            }
            size++;
            return size - 1;
        }

        void dropOldest() {
            oldest += width;
            if (oldest == cells.length) {
                oldest = 0;
            }
            size--;
        }

        private int cellOf(int row, int column) {
            int cell = oldest + row * width + column;
            return cell < cells.length ? cell : cell - cells.length;
        }

        // Most objects never come near the limits, so the cells are made as they are needed.
        private void grow() {
            int[] more = new int[cells.length * 2];
            int behind = cells.length - oldest;
            System.arraycopy(cells, oldest, more, 0, behind);
            System.arraycopy(cells, 0, more, behind, oldest);
            cells = more;
            oldest = 0;
        }
    }

    /** Which routers are edges; a bit is held as an int in which it alone is set. */
    private static final class Edges {
        private final int[] bit = new int[ROUTERS];
        private int taken;
        private int edgesSoFar;

        boolean isEdge(int r) {
            return bit[r] != 0;
        }

        boolean isTaken(int wanted) {
            return (taken & wanted) != 0;
        }

        void make(int r, int itsBit) {
            bit[r] = itsBit;
            taken |= itsBit;
            edgesSoFar++;
        }

        /** No bit at all, 0, for a router that is no edge. */
        int bitOf(int r) {
            return bit[r];
        }

        int edgesSoFar() {
            return edgesSoFar;
        }
    }

    /** The links as they are, and as the routers know them. */
    private static final class Links {
        private static final int GONE = 0;
        private static final int WHOLE = 1;
        private static final int CUT = 2;

        private final int[][] state = new int[ROUTERS][ROUTERS];
        private final int[][] known = new int[ROUTERS][ROUTERS];

        boolean exists(int a, int b) {
            return state[a][b] != GONE;
        }

        boolean isWhole(int a, int b) {
            return state[a][b] == WHOLE;
        }

        boolean isCut(int a, int b) {
            return state[a][b] == CUT;
        }

        boolean isKnown(int r, int neighbour) {
            return known[r][neighbour] != 0;
        }

        /** 0 if the router knows of no such link. */
        int knownWeight(int r, int neighbour) {
            return known[r][neighbour];
        }

        void make(int a, int b, int weight) {
            become(a, b, WHOLE);
            known[a][b] = weight;
            known[b][a] = weight;
        }

        void sever(int a, int b) {
            become(a, b, CUT);
        }

        void unlearn(int r, int neighbour) {
            known[r][neighbour] = 0;
            if (!isKnown(neighbour, r)) {
                become(r, neighbour, GONE);
            }
        }

        private void become(int a, int b, int newState) {
            state[a][b] = newState;
            state[b][a] = newState;
        }
    }

    /**
     * What each router has of each other's advertisements. One that has been made never changes,
     * so all stores and messages share its row.
     */
    private static final class Stores {
        private static final int ORIGIN = 0;
        private static final int NUMBER = 1;
        private static final int FIRST_WEIGHT = 2;
        private static final int NO_ADVERT = 0;

        private final Rows adverts = new Rows(FIRST_WEIGHT + ROUTERS);
        private final int[][] held = new int[ROUTERS][ROUTERS];
        private final int[] changes = new int[ROUTERS];

        Stores() {
            // "No advertisement" is a row too: its number is 0 and it tells of nobody.
            adverts.add();
        }

        boolean hasRoomForTwo() {
            return adverts.size() + 2 <= MOST_ADVERTS;
        }

        int advertOf(int r, int other) {
            return held[r][other];
        }

        boolean hasAdvertOf(int r, int other) {
            return held[r][other] != NO_ADVERT;
        }

        int originOf(int advert) {
            return adverts.get(advert, ORIGIN);
        }

        int numberOf(int advert) {
            return adverts.get(advert, NUMBER);
        }

        /** Writes down the weights of the links that count by r's store; 0 for no link. */
        void writeView(int r, int[][] weights) {
            for (int x = 0; x < ROUTERS; x++) {
                for (int y = 0; y < ROUTERS; y++) {
                    int there = adverts.get(held[r][x], FIRST_WEIGHT + y);
                    int back = adverts.get(held[r][y], FIRST_WEIGHT + x);
                    weights[x][y] = back == 0 ? 0 : there;
                }
            }
        }

        int changesOf(int r) {
            return changes[r];
        }

        void keep(int r, int advert) {
            held[r][originOf(advert)] = advert;
            changes[r]++;
        }

        int makeAdvert(int r, Links links) {
            int number = numberOf(held[r][r]) + 1;
            int advert = adverts.add();
            adverts.set(advert, ORIGIN, r);
            adverts.set(advert, NUMBER, number);
            for (int m = 0; m < ROUTERS; m++) {
                adverts.set(advert, FIRST_WEIGHT + m, links.knownWeight(r, m));
            }
            return advert;
        }

        boolean areSame(int a, int b) {
            for (int other = 0; other < ROUTERS; other++) {
                if (held[a][other] != held[b][other]) {
                    return false;
                }
            }
            return true;
        }
    }

    /** Spreads the advertisements. */
    private static final class Control {
        private static final int FROM = 0;
        private static final int TO = 1;
        private static final int ADVERT = 2;

        private final Links links;
        private final Stores stores;
        private final Rows messages = new Rows(3);
        private int lost;

        Control(Links links, Stores stores) {
            this.links = links;
            this.stores = stores;
        }

        int onTheWay() {
            return messages.size();
        }

        int messagesLost() {
            return lost;
        }

        boolean hasRoomForLinks() {
            return messages.size() < CROWDED_FOR_LINKS && stores.hasRoomForTwo();
        }

        void greet(int lower, int higher) {
            advertise(lower);
            advertise(higher);
            sendStore(lower, higher);
            sendStore(higher, lower);
        }

        void advertise(int r) {
            int advert = stores.makeAdvert(r, links);
            stores.keep(r, advert);
            sendToAllBut(NONE, r, advert);
        }

        void deliverOldest() {
            int from = messages.get(0, FROM);
            int to = messages.get(0, TO);
            int advert = messages.get(0, ADVERT);
            messages.dropOldest();
            if (links.isWhole(from, to)) {
                receive(to, from, advert);
            } else {
                lost++;
            }
        }

        // Stores that are the same over every whole link are so over all that hangs together.
        boolean neighboursAgree() {
            for (int a = 0; a < ROUTERS; a++) {
                for (int b = a + 1; b < ROUTERS; b++) {
                    if (links.isWhole(a, b) && !stores.areSame(a, b)) {
                        return false;
                    }
                }
            }
            return true;
        }

        private void receive(int r, int from, int advert) {
            int own = stores.advertOf(r, stores.originOf(advert));
            if (stores.numberOf(advert) > stores.numberOf(own)) {
                stores.keep(r, advert);
                sendToAllBut(from, r, advert);
            } else if (stores.numberOf(advert) < stores.numberOf(own)) {
                post(r, from, own);
            }
        }

        private void sendToAllBut(int except, int r, int advert) {
            for (int m = 0; m < ROUTERS; m++) {
                if (m != except && links.isKnown(r, m)) {
                    post(r, m, advert);
                }
            }
        }

        private void sendStore(int from, int to) {
            for (int other = 0; other < ROUTERS; other++) {
                if (other != from && stores.hasAdvertOf(from, other)) {
                    post(from, to, stores.advertOf(from, other));
                }
            }
        }

        private void post(int from, int to, int advert) {
            int row = messages.add();
            messages.set(row, FROM, from);
            messages.set(row, TO, to);
            messages.set(row, ADVERT, advert);
        }
    }

    /** Reckons ways from a router's store. */
    private static final class Routes {
        private static final int NO_WAY = -1;

        private final Stores stores;
        private final Edges edges;
        private final int[][] masks = new int[ROUTERS][ROUTERS];
        private final int[] reckonedAt = new int[ROUTERS];
        // The rows below hold one view at a time: of the links that count, and of the ways from
        // one router along them.
        private final int[][] weight = new int[ROUTERS][ROUTERS];
        private final int[] length = new int[ROUTERS];
        private final int[] firstHop = new int[ROUTERS];
        private final boolean[] done = new boolean[ROUTERS];

        Routes(Stores stores, Edges edges) {
            this.stores = stores;
            this.edges = edges;
        }

        /** A router's masks for all its neighbours; 0 for who is none. */
        int[] masksOf(int r) {
            // Both counts only grow, so their sum stays the same only if both do.
            int now = stores.changesOf(r) + edges.edgesSoFar();
            if (reckonedAt[r] != now) {
                reckonMasks(r);
                reckonedAt[r] = now;
            }
            return masks[r];
        }

        int lengthOfWay(int r, int other) {
            stores.writeView(r, weight);
            reckonWaysFrom(r);
            return length[other];
        }

        int spareNeighbour(int r, int d) {
            stores.writeView(r, weight);
            reckonWaysFrom(r);
            if (d == r || length[d] == NO_WAY) {
                return NONE;
            }
            int direct = length[d];
            int hop = firstHop[d];
            for (int m = 0; m < ROUTERS; m++) {
                if (m != hop && weight[r][m] != 0) {
                    reckonWaysFrom(m);
                    if (length[d] < length[r] + direct) {
                        return m;
                    }
                }
            }
            return NONE;
        }

        private void reckonMasks(int r) {
            stores.writeView(r, weight);
            reckonWaysFrom(r);
            for (int m = 0; m < ROUTERS; m++) {
                masks[r][m] = 0;
            }
            for (int d = 0; d < ROUTERS; d++) {
                if (d != r && length[d] != NO_WAY) {
                    masks[r][firstHop[d]] |= edges.bitOf(d);
                }
            }
        }

        private void reckonWaysFrom(int source) {
            for (int x = 0; x < ROUTERS; x++) {
                length[x] = NO_WAY;
                firstHop[x] = x;
                done[x] = false;
            }
            length[source] = 0;
            int x = source;
            for (int turn = 0; turn < ROUTERS && x != NONE; turn++) {
                done[x] = true;
                extendWays(source, x);
                x = nearestNotDone();
            }
        }

        private int nearestNotDone() {
            int nearest = NONE;
            for (int x = 0; x < ROUTERS; x++) {
                if (!done[x] && length[x] != NO_WAY
                        && (nearest == NONE || length[x] < length[nearest])) {
                    nearest = x;
                }
            }
            return nearest;
        }

        // No weight is 0, so all that come before a router on its least ways are done before it,
        // and the lowest of its first hops is known by then.
        private void extendWays(int source, int x) {
            for (int y = 0; y < ROUTERS; y++) {
                if (weight[x][y] != 0) {
                    int longer = length[x] + weight[x][y];
                    int hop = x == source ? y : firstHop[x];
                    if (length[y] == NO_WAY || longer < length[y]) {
                        length[y] = longer;
                        firstHop[y] = hop;
                    } else if (longer == length[y] && hop < firstHop[y]) {
                        firstHop[y] = hop;
                    }
                }
            }
        }
    }

    /** Packets and their copies. */
    private static final class Data {
        private static final int PACKET = 0;
        private static final int FROM = 1;
        private static final int TO = 2;
        private static final int SET = 3;
        private static final int HOPS = 4;
        private static final int DELIVERED = 0;
        private static final int CROSSINGS = 1;

        private final Links links;
        private final Edges edges;
        private final Routes routes;
        private final Rows packets = new Rows(2);
        private final Rows copies = new Rows(5);
        private int delivered;
        private int expired;
        private int lost;

        Data(Links links, Edges edges, Routes routes) {
            this.links = links;
            this.edges = edges;
            this.routes = routes;
        }

        int onTheWay() {
            return copies.size();
        }

        int packetsSoFar() {
            return packets.size();
        }

        int copiesDelivered() {
            return delivered;
        }

        int copiesExpired() {
            return expired;
        }

        int bitsLost() {
            return lost;
        }

        int bitsDelivered(int packet) {
            return packets.get(packet - 1, DELIVERED);
        }

        int linksCrossed(int packet) {
            return packets.get(packet - 1, CROSSINGS);
        }

        boolean hasRoomFor(int r, int set) {
            return packets.size() < MOST_PACKETS
                    && copies.size() + partsOf(r, set) <= MOST_ON_THE_WAY;
        }

        int start(int r, int set) {
            int packet = packets.add() + 1;
            handle(packet, r, set, 0);
            return packet;
        }

        void deliverOldest() {
            int packet = copies.get(0, PACKET);
            int from = copies.get(0, FROM);
            int to = copies.get(0, TO);
            int set = copies.get(0, SET);
            int hops = copies.get(0, HOPS);
            copies.dropOldest();
            if (links.isWhole(from, to)) {
                handle(packet, to, set, hops);
            } else {
                lost += Integer.bitCount(set);
            }
        }

        int loseOldest() {
            if (copies.size() == 0) {
                return 0;
            }
            lost += Integer.bitCount(copies.get(0, SET));
            copies.dropOldest();
            return 1;
        }

        private int partsOf(int r, int set) {
            int left = set & ~edges.bitOf(r);
            int[] masks = routes.masksOf(r);
            int parts = 0;
            for (int m = 0; m < ROUTERS; m++) {
                if ((left & masks[m]) != 0) {
                    parts++;
                }
            }
            return parts;
        }

        private void handle(int packet, int r, int set, int hops) {
            int own = set & edges.bitOf(r);
            if (own != 0) {
                packets.set(packet - 1, DELIVERED, packets.get(packet - 1, DELIVERED) | own);
                delivered++;
            }
            int left = set & ~own;
            int[] masks = routes.masksOf(r);
            for (int m = 0; m < ROUTERS; m++) {
                int part = left & masks[m];
                if (part != 0) {
                    left &= ~part;
                    sendOn(packet, r, m, part, hops);
                }
            }
            lost += Integer.bitCount(left);
        }

        private void sendOn(int packet, int from, int to, int part, int hops) {
            if (hops >= MOST_HOPS) {
                expired++;
                return;
            }
            packets.set(packet - 1, CROSSINGS, packets.get(packet - 1, CROSSINGS) + 1);
            int row = copies.add();
            copies.set(row, PACKET, packet);
            copies.set(row, FROM, from);
            copies.set(row, TO, to);
            copies.set(row, SET, part);
            copies.set(row, HOPS, hops + 1);
        }
    }

    /** Receivers by groups, and what the ingresses have heard of them. */
    private static final class Groups {
        private static final int GROUP = 0;
        private static final int BIT = 1;
        private static final int IS_IN = 2;

        private final Edges edges;
        private final int[] ingress = new int[GROUPS];
        private final int[] heard = new int[GROUPS];
        private final int[] notesOf = new int[GROUPS];
        private final int[][] receivers = new int[ROUTERS][GROUPS];
        private final Rows notes = new Rows(3);

        Groups(Edges edges) {
            this.edges = edges;
            for (int group = 0; group < GROUPS; group++) {
                ingress[group] = NONE;
            }
        }

        int onTheWay() {
            return notes.size();
        }

        int ingressOf(int group) {
            return ingress[group];
        }

        int heardOf(int group) {
            return heard[group];
        }

        int receiversOf(int edge, int group) {
            return receivers[edge][group];
        }

        boolean isIdle(int group) {
            for (int r = 0; r < ROUTERS; r++) {
                if (receivers[r][group] != 0) {
                    return false;
                }
            }
            return notesOf[group] == 0;
        }

        void appoint(int group, int edge) {
            ingress[group] = edge;
            heard[group] = 0;
        }

        boolean hasRoomForCount(int edge, int group, int next) {
            return notes.size() < MOST_ON_THE_WAY || !needsNote(edge, group, next);
        }

        void recount(int edge, int group, int next) {
            boolean isNews = needsNote(edge, group, next);
            receivers[edge][group] = next;
            if (isNews) {
                tell(edge, group);
            }
        }

        void tellAll(int edge) {
            for (int group = 0; group < GROUPS; group++) {
                if (ingress[group] != NONE) {
                    tell(edge, group);
                }
            }
        }

        void deliverOldest() {
            int group = notes.get(0, GROUP);
            int bit = notes.get(0, BIT);
            boolean isIn = notes.get(0, IS_IN) == 1;
            dropOldest(group);
            heard[group] = isIn ? heard[group] | bit : heard[group] & ~bit;
        }

        int loseOldest() {
            if (notes.size() == 0) {
                return 0;
            }
            dropOldest(notes.get(0, GROUP));
            return 1;
        }

        private void dropOldest(int group) {
            notes.dropOldest();
            notesOf[group]--;
        }

        private boolean needsNote(int edge, int group, int next) {
            boolean wasIn = receivers[edge][group] > 0;
            return ingress[group] != NONE && wasIn != next > 0;
        }

        // An ingress stays while notes of its group are on their way, so a note needs no address.
        private void tell(int edge, int group) {
            int row = notes.add();
            notes.set(row, GROUP, group);
            notes.set(row, BIT, edges.bitOf(edge));
            notes.set(row, IS_IN, receivers[edge][group] > 0 ? 1 : 0);
            notesOf[group]++;
        }
    }
}
