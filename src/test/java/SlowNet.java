import java.util.ArrayDeque;
import java.util.ArrayList;
import java.util.HashMap;
import java.util.List;
import java.util.Map;
import java.util.TreeMap;

/** The document once more, word by word and without a thought of speed, to be compared with. */
final class SlowNet {
    private record Advert(int origin, int number, Map<Integer, Integer> weights) {
    }

    private record Message(int from, int to, Advert advert) {
    }

    private record Copy(int packet, int from, int to, int set, int hops) {
    }

    private record Note(int group, int edge, boolean isIn) {
    }

    private final Map<Integer, Integer> bitOf = new HashMap<>();
    /** By ends, the lower one first: true for a whole link, false for a cut one. */
    private final Map<List<Integer>, Boolean> links = new HashMap<>();
    private final List<Map<Integer, Integer>> known = new ArrayList<>();
    private final List<Map<Integer, Advert>> stores = new ArrayList<>();
    private final ArrayDeque<Message> messages = new ArrayDeque<>();
    private final ArrayDeque<Copy> copies = new ArrayDeque<>();
    private final ArrayDeque<Note> notes = new ArrayDeque<>();
    private final Map<Integer, Integer> ingressOf = new HashMap<>();
    private final Map<Integer, Integer> heard = new HashMap<>();
    private final Map<List<Integer>, Integer> receivers = new HashMap<>();
    private final List<Integer> deliveredBits = new ArrayList<>();
    private final List<Integer> crossed = new ArrayList<>();
    private int copiesDelivered;
    private int copiesExpired;
    private int bitsLost;
    private int messagesLost;

    SlowNet() {
        for (int r = 0; r < 12; r++) {
            known.add(new TreeMap<>());
            stores.add(new TreeMap<>());
        }
    }

    private static void argument(boolean fits) {
        if (!fits) {
            throw new IllegalArgumentException();
        }
    }

    private static void state(boolean fits) {
        if (!fits) {
            throw new IllegalStateException();
        }
    }

    private static void router(int r) {
        argument(0 <= r && r <= 11);
    }

    private static void group(int group) {
        argument(0 <= group && group <= 7);
    }

    private static List<Integer> ends(int a, int b) {
        return List.of(Math.min(a, b), Math.max(a, b));
    }

    private boolean whole(int a, int b) {
        return links.getOrDefault(ends(a, b), false);
    }

    void edge(int r, int bit) {
        router(r);
        argument(0 <= bit && bit <= 31);
        argument(!bitOf.containsKey(r) && !bitOf.containsValue(bit));
        bitOf.put(r, bit);
    }

    void link(int a, int b, int weight) {
        state(messages.size() < 2000);
        router(a);
        router(b);
        argument(a != b && !links.containsKey(ends(a, b)) && 1 <= weight && weight <= 1000);
        links.put(ends(a, b), true);
        known.get(a).put(b, weight);
        known.get(b).put(a, weight);
        int low = Math.min(a, b);
        int high = Math.max(a, b);
        advertise(low);
        advertise(high);
        sendAll(low, high);
        sendAll(high, low);
    }

    private void advertise(int r) {
        Advert old = stores.get(r).get(r);
        Advert advert = new Advert(r, old == null ? 1 : old.number() + 1, Map.copyOf(known.get(r)));
        stores.get(r).put(r, advert);
        for (int m : known.get(r).keySet()) {
            messages.add(new Message(r, m, advert));
        }
    }

    private void sendAll(int from, int to) {
        for (Advert advert : stores.get(from).values()) {
            if (advert.origin() != from) {
                messages.add(new Message(from, to, advert));
            }
        }
    }

    void cut(int a, int b) {
        router(a);
        router(b);
        argument(a != b && whole(a, b));
        links.put(ends(a, b), false);
    }

    void notice(int r, int neighbour) {
        state(messages.size() < 2000);
        router(r);
        router(neighbour);
        argument(known.get(r).containsKey(neighbour) && !whole(r, neighbour));
        known.get(r).remove(neighbour);
        if (!known.get(neighbour).containsKey(r)) {
            links.remove(ends(r, neighbour));
        }
        advertise(r);
    }

    int step(int n) {
        state(messages.size() < 3900);
        argument(1 <= n && n <= 1000);
        int done = 0;
        while (done < n && !messages.isEmpty() && messages.size() < 3900) {
            stepOnce(messages.remove());
            done++;
        }
        return done;
    }

    private void stepOnce(Message message) {
        int from = message.from();
        int r = message.to();
        if (!whole(from, r)) {
            messagesLost++;
            return;
        }
        Advert got = message.advert();
        Advert has = stores.get(r).get(got.origin());
        if (has == null || got.number() > has.number()) {
            stores.get(r).put(got.origin(), got);
            for (int m : known.get(r).keySet()) {
                if (m != from) {
                    messages.add(new Message(r, m, got));
                }
            }
        } else if (got.number() < has.number()) {
            messages.add(new Message(r, from, has));
        }
    }

    boolean settled() {
        if (!messages.isEmpty()) {
            return false;
        }
        for (int a = 0; a < 12; a++) {
            boolean[] together = new boolean[12];
            spread(a, together);
            for (int b = 0; b < 12; b++) {
                if (together[b] && !stores.get(a).equals(stores.get(b))) {
                    return false;
                }
            }
        }
        return true;
    }

    private void spread(int a, boolean[] together) {
        together[a] = true;
        for (int b = 0; b < 12; b++) {
            if (!together[b] && a != b && whole(a, b)) {
                spread(b, together);
            }
        }
    }

    /** All distances by r's store; null where no way leads. */
    private Integer[][] view(int r) {
        Integer[][] far = new Integer[12][12];
        for (int x = 0; x < 12; x++) {
            for (int y = 0; y < 12; y++) {
                far[x][y] = x == y ? Integer.valueOf(0) : weight(r, x, y);
            }
        }
        for (int k = 0; k < 12; k++) {
            for (int x = 0; x < 12; x++) {
                for (int y = 0; y < 12; y++) {
                    if (far[x][k] != null && far[k][y] != null
                            && (far[x][y] == null || far[x][k] + far[k][y] < far[x][y])) {
                        far[x][y] = far[x][k] + far[k][y];
                    }
                }
            }
        }
        return far;
    }

    private Integer weight(int r, int x, int y) {
        Advert ofX = stores.get(r).get(x);
        Advert ofY = stores.get(r).get(y);
        if (ofX == null || ofY == null || !ofY.weights().containsKey(x)) {
            return null;
        }
        return ofX.weights().get(y);
    }

    private int nextHop(int r, int d, Integer[][] far) {
        for (int m = 0; m < 12; m++) {
            Integer weight = weight(r, r, m);
            if (weight != null && d != r && far[m][d] != null && weight + far[m][d] == far[r][d]) {
                return m;
            }
        }
        return -1;
    }

    int mask(int r, int neighbour) {
        router(r);
        router(neighbour);
        Integer[][] far = view(r);
        int mask = 0;
        for (int d : bitOf.keySet()) {
            if (nextHop(r, d, far) == neighbour) {
                mask |= 1 << bitOf.get(d);
            }
        }
        return mask;
    }

    int distance(int r, int other) {
        router(r);
        router(other);
        Integer far = view(r)[r][other];
        return far == null ? -1 : far;
    }

    int alternate(int r, int d) {
        router(r);
        router(d);
        Integer[][] far = view(r);
        if (d == r || far[r][d] == null) {
            return -1;
        }
        for (int m = 0; m < 12; m++) {
            if (weight(r, r, m) != null && m != nextHop(r, d, far)
                    && far[m][d] < far[m][r] + far[r][d]) {
                return m;
            }
        }
        return -1;
    }

    int stored(int r, int other) {
        router(r);
        router(other);
        Advert advert = stores.get(r).get(other);
        return advert == null ? 0 : advert.number();
    }

    void ingress(int group, int edge) {
        group(group);
        argument(bitOf.containsKey(edge));
        for (int r = 0; r < 12; r++) {
            argument(receivers.getOrDefault(List.of(r, group), 0) == 0);
        }
        for (Note note : notes) {
            argument(note.group() != group);
        }
        ingressOf.put(group, edge);
        heard.put(group, 0);
    }

    int join(int edge, int group, int change) {
        argument(bitOf.containsKey(edge));
        group(group);
        argument(change == 1 || change == -1);
        int before = receivers.getOrDefault(List.of(edge, group), 0);
        int after = before + change;
        argument(0 <= after && after <= 100);
        boolean sends = ingressOf.containsKey(group) && (after == 0 || before == 0);
        state(!sends || notes.size() < 4000);
        receivers.put(List.of(edge, group), after);
        if (sends) {
            notes.add(new Note(group, edge, after > 0));
        }
        return after;
    }

    void report(int edge) {
        state(notes.size() < 3900);
        argument(bitOf.containsKey(edge));
        for (int group = 0; group < 8; group++) {
            if (ingressOf.containsKey(group)) {
                notes.add(new Note(group, edge, receivers.getOrDefault(List.of(edge, group), 0) > 0));
            }
        }
    }

    int carry(int n) {
        argument(n == -1 || 1 <= n && n <= 1000);
        if (n == -1) {
            return notes.poll() == null ? 0 : 1;
        }
        int done = 0;
        while (done < n && !notes.isEmpty()) {
            Note note = notes.remove();
            int bit = 1 << bitOf.get(note.edge());
            int had = heard.get(note.group());
            heard.put(note.group(), note.isIn() ? had | bit : had & ~bit);
            done++;
        }
        return done;
    }

    int bits(int group) {
        group(group);
        return heard.getOrDefault(group, 0);
    }

    int send(int edge, int group) {
        router(edge);
        group(group);
        argument(ingressOf.getOrDefault(group, -1) == edge);
        return sendBits(edge, heard.get(group));
    }

    int sendBits(int r, int set) {
        router(r);
        int parts = 0;
        int own = bitOf.containsKey(r) ? 1 << bitOf.get(r) : 0;
        for (int m = 0; m < 12; m++) {
            if ((set & ~own & mask(r, m)) != 0) {
                parts++;
            }
        }
        state(copies.size() + parts <= 4000 && deliveredBits.size() < 900);
        deliveredBits.add(0);
        crossed.add(0);
        handle(deliveredBits.size(), r, set, 0);
        return deliveredBits.size();
    }

    private void handle(int packet, int r, int set, int hops) {
        int left = set;
        if (bitOf.containsKey(r) && (left & 1 << bitOf.get(r)) != 0) {
            deliveredBits.set(packet - 1, deliveredBits.get(packet - 1) | 1 << bitOf.get(r));
            copiesDelivered++;
            left &= ~(1 << bitOf.get(r));
        }
        int unsent = left;
        for (int m = 0; m < 12; m++) {
            int part = left == 0 ? 0 : left & mask(r, m);
            if (part != 0 && hops == 255) {
                copiesExpired++;
            } else if (part != 0) {
                copies.add(new Copy(packet, r, m, part, hops + 1));
                crossed.set(packet - 1, crossed.get(packet - 1) + 1);
            }
            unsent &= ~part;
        }
        bitsLost += Integer.bitCount(unsent);
    }

    int move(int n) {
        state(n == -1 || copies.size() < 3900);
        argument(n == -1 || 1 <= n && n <= 1000);
        if (n == -1) {
            Copy copy = copies.poll();
            bitsLost += copy == null ? 0 : Integer.bitCount(copy.set());
            return copy == null ? 0 : 1;
        }
        int done = 0;
        while (done < n && !copies.isEmpty() && copies.size() < 3900) {
            Copy copy = copies.remove();
            if (whole(copy.from(), copy.to())) {
                handle(copy.packet(), copy.to(), copy.set(), copy.hops());
            } else {
                bitsLost += Integer.bitCount(copy.set());
            }
            done++;
        }
        return done;
    }

    int delivered(int packet) {
        argument(1 <= packet && packet <= deliveredBits.size());
        return deliveredBits.get(packet - 1);
    }

    int crossings(int packet) {
        argument(1 <= packet && packet <= crossed.size());
        return crossed.get(packet - 1);
    }

    int count(int what) {
        int[] counts = {messages.size(), copies.size(), notes.size(), crossed.size(),
            copiesDelivered, copiesExpired, bitsLost, messagesLost};
        return 0 <= what && what < counts.length ? counts[what] : -1;
    }
}
