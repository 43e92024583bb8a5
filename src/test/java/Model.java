import java.util.ArrayList;
import java.util.List;

/**
 * The document once more, sentence by sentence and without thrift, for the
 * random runs to compare with. It shares no code with the program.
 */
final class Model {
    private enum State { DEAD, RECOVERING, SERVING, ALONE }

    private enum Kind { OTHER, OWN, BOUND, ENDING, GIVEN }

    private enum Type { REQUEST, ANSWER, HELLO, UPDATE, ACK }

    private record Letter(Type type, int to, int from, int third, int address, int number, int amount,
            int epoch, int heard, int client, int request, boolean released, int seen, int voided, int ownVersion) {
    }

    private static final class Rec {
        Kind kind = Kind.OTHER;
        int client = -1;
        int end;
        int request;
        boolean released;
        int version;
        int since;
        boolean pending;
        int known;
        int seen;
        int voided;
        boolean sole;
        boolean fresh;
    }

    private static final class Host {
        State state = State.SERVING;
        int offset;
        int epoch = 1;
        int live = 1;
        int heard = 1;
        int declared;
        int fuse;
        int wrote;
        final List<Rec> recs = new ArrayList<>();
    }

    private static final class Guest {
        int requests;
        boolean releasing;
        Integer leased;
        int until;
    }

    private final int n;
    private final int lead;
    private final int d;
    private int time;
    private int most;
    private final Host[] hosts = {new Host(), new Host()};
    private final Guest[] guests = new Guest[16];
    private final List<Letter> net = new ArrayList<>();

    Model(int addresses, int lead, int skew) {
        n = addresses < 2 ? 2 : addresses > 32 ? 32 : addresses;
        this.lead = lead < 1 ? 1 : lead > 10000 ? 10000 : lead;
        d = skew < 0 ? 0 : skew > 1000 ? 1000 : skew;
        for (int a = 0; a < n; a++) {
            for (int s = 0; s < 2; s++) {
                Rec rec = new Rec();
                if ((a % 2 == 0) == (s == 0)) {
                    rec.kind = Kind.OWN;
                }
                hosts[s].recs.add(rec);
            }
        }
        for (int c = 0; c < 16; c++) {
            guests[c] = new Guest();
        }
    }

    private static void bounds(long value, long low, long high) {
        if (value < low || value > high) {
            throw new IllegalArgumentException();
        }
    }

    int seconds(int k) {
        bounds(k, 0, 100000);
        bounds((long) time + k, 0, 1000000000L);
        return time += k;
    }

    int skew(int s, int offset) {
        bounds(s, 0, 1);
        bounds(offset, 0, d);
        int old = hosts[s].offset;
        hosts[s].offset = offset;
        return old;
    }

    boolean kill(int s) {
        bounds(s, 0, 1);
        if (hosts[s].state == State.DEAD) {
            return false;
        }
        hosts[s].state = State.DEAD;
        hosts[s].fuse = 0;
        return true;
    }

    void fuse(int s, int k) {
        bounds(s, 0, 1);
        bounds(k, 0, 100);
        hosts[s].fuse = k;
    }

    /** Whether it lives behind it. */
    private boolean write(Host h) {
        h.wrote++;
        if (h.fuse > 0 && --h.fuse == 0) {
            h.state = State.DEAD;
        }
        return h.state != State.DEAD;
    }

    boolean start(int s) {
        bounds(s, 0, 1);
        Host h = hosts[s];
        if (h.state != State.DEAD) {
            return false;
        }
        h.fuse = 0;
        h.epoch++;
        h.state = State.RECOVERING;
        for (Rec rec : h.recs) {
            rec.fresh = rec.sole = false;
        }
        write(h);
        post(hello(s));
        return true;
    }

    boolean partnerDown(int s) {
        bounds(s, 0, 1);
        Host h = hosts[s];
        if (h.state != State.SERVING || hosts[1 - s].state != State.DEAD) {
            return false;
        }
        h.state = State.ALONE;
        h.declared = clock(h);
        for (Rec rec : h.recs) {
            rec.sole = rec.kind == Kind.OWN;
        }
        write(h);
        return true;
    }

    int ask(int c, int kind, int s, int address, int seconds) {
        bounds(c, 0, 15);
        bounds(kind, 0, 2);
        bounds(s, 0, 1);
        bounds(address, 0, n - 1);
        bounds(seconds, 1, 100000);
        Guest g = guests[c];
        g.requests++;
        g.releasing = kind == 2;
        if (g.releasing) {
            g.leased = null;
            g.until = 0;
        }
        post(new Letter(Type.REQUEST, s, c, kind, kind == 0 ? -1 : address, g.requests, kind == 2 ? 0 : seconds,
                0, 0, 0, 0, false, 0, 0, 0));
        return g.requests;
    }

    int send(int s) {
        bounds(s, 0, 1);
        Host h = hosts[s];
        if (h.state == State.DEAD) {
            return -1;
        }
        int sent = 0;
        if (h.state == State.RECOVERING) {
            post(hello(s));
            sent++;
        }
        for (int a = 0; a < n; a++) {
            if (h.recs.get(a).pending) {
                post(update(s, a));
                sent++;
            }
        }
        return sent;
    }

    int tidy(int s) {
        bounds(s, 0, 1);
        Host h = hosts[s];
        int t = clock(h);
        int changes = 0;
        if (h.state == State.SERVING) {
            for (Rec rec : h.recs) {
                if (rec.kind == Kind.BOUND && rec.end <= t) {
                    rec.kind = Kind.ENDING;
                    changed(rec);
                    changes++;
                }
            }
        } else if (h.state == State.ALONE) {
            for (Rec rec : h.recs) {
                if (rec.sole) {
                    if ((rec.kind == Kind.BOUND && rec.end <= t) || rec.kind == Kind.ENDING) {
                        rec.kind = Kind.OWN;
                        changed(rec);
                        changes++;
                    }
                } else if (rec.kind != Kind.OWN && t >= lead + (rec.end > h.declared + d ? rec.end : h.declared + d)) {
                    rec.kind = Kind.OWN;
                    rec.sole = true;
                    rec.voided = h.heard;
                    rec.seen = -1;
                    changed(rec);
                    changes++;
                }
            }
        } else {
            return -1;
        }
        if (changes != 0) {
            write(h);
        }
        return changes;
    }

    int give(int s, int k) {
        bounds(s, 0, 1);
        bounds(k, 1, 32);
        Host h = hosts[s];
        if (h.state != State.SERVING) {
            return -1;
        }
        int gave = 0;
        for (Rec rec : h.recs) {
            if (gave < k && rec.kind == Kind.OWN) {
                rec.kind = Kind.GIVEN;
                changed(rec);
                gave++;
            }
        }
        if (gave != 0) {
            write(h);
        }
        return gave;
    }

    boolean carry(int place) {
        bounds(place, 0, net.size() - 1);
        return reach(net.get(place));
    }

    int carryAll() {
        List<Letter> now = new ArrayList<>(net);
        net.clear();
        for (Letter letter : now) {
            reach(letter);
        }
        return now.size();
    }

    int drop(int place) {
        bounds(place, 0, net.size() - 1);
        net.remove(place);
        return net.size();
    }

    int messages() {
        return net.size();
    }

    int message(int place, int what) {
        bounds(place, 0, net.size() - 1);
        bounds(what, 0, 6);
        Letter m = net.get(place);
        int[] row = {m.type.ordinal(), m.to, m.from, m.third, m.address, m.number, m.amount};
        return row[what];
    }

    int client(int c, int what) {
        bounds(c, 0, 15);
        bounds(what, 0, 2);
        Guest g = guests[c];
        int[] row = {holds(g) ? g.leased : -1, g.leased == null ? 0 : g.until, g.requests};
        return row[what];
    }

    int record(int s, int a, int what) {
        bounds(s, 0, 1);
        bounds(a, 0, n - 1);
        bounds(what, 0, 9);
        Rec r = hosts[s].recs.get(a);
        int flags = (r.pending ? 1 : 0) | (r.released ? 2 : 0) | (r.sole ? 4 : 0);
        int[] row = {r.kind.ordinal(), r.client, r.end, r.request, r.version, r.known, r.seen, r.voided, r.since,
            flags};
        return row[what];
    }

    int server(int s, int what) {
        bounds(s, 0, 1);
        bounds(what, 0, 8);
        Host h = hosts[s];
        int own = (int) h.recs.stream().filter(r -> r.kind == Kind.OWN).count();
        int pending = (int) h.recs.stream().filter(r -> r.pending).count();
        int[] row = {h.state.ordinal(), clock(h), h.epoch, h.heard, h.live, h.declared, own, pending, h.wrote};
        return row[what];
    }

    int most() {
        return most;
    }

    private int clock(Host h) {
        return time + h.offset;
    }

    private boolean holds(Guest g) {
        return g.leased != null && time < g.until - d;
    }

    private static void changed(Rec rec) {
        rec.version++;
        rec.pending = true;
    }

    private void post(Letter letter) {
        net.add(letter);
        if (net.size() > 300) {
            net.remove(0);
        }
    }

    private Letter hello(int s) {
        return new Letter(Type.HELLO, 1 - s, s, 0, -1, hosts[s].epoch, 0, 0, 0, 0, 0, false, 0, 0, 0);
    }

    private Letter update(int s, int a) {
        Host h = hosts[s];
        Rec r = h.recs.get(a);
        return new Letter(Type.UPDATE, 1 - s, s, r.kind.ordinal(), a, r.version, r.end, h.epoch, h.heard, r.client,
                r.request, r.released, r.seen, r.voided, 0);
    }

    private void answer(Letter request, int s, boolean lease, int address, int until) {
        post(new Letter(Type.ANSWER, request.from, s, lease ? 1 : 0, lease ? address : -1, request.number,
                lease ? until : 0, 0, 0, 0, 0, false, 0, 0, 0));
    }

    private boolean reach(Letter m) {
        if (m.type == Type.ANSWER) {
            Guest g = guests[m.to];
            if (m.number != g.requests || g.releasing) {
                return false;
            }
            if (m.third == 1) {
                g.leased = m.address;
                g.until = m.amount;
            }
            for (int a = 0; a < n; a++) {
                int holders = 0;
                for (Guest other : guests) {
                    if (holds(other) && other.leased == a) {
                        holders++;
                    }
                }
                most = Math.max(most, holders);
            }
            return true;
        }
        Host h = hosts[m.to];
        if (h.state == State.DEAD || (m.type == Type.REQUEST && h.state == State.RECOVERING)) {
            return false;
        }
        if (m.type == Type.REQUEST) {
            request(h, m);
        } else if (m.type == Type.HELLO) {
            hello(h, m);
        } else if (m.type == Type.UPDATE) {
            update(h, m);
        } else {
            ack(h, m);
        }
        return true;
    }

    private void request(Host h, Letter m) {
        int t = clock(h);
        if (m.third == 2) {
            Rec r = h.recs.get(m.address);
            if (r.kind == Kind.BOUND && r.client == m.from && r.request <= m.number) {
                r.request = m.number;
                r.kind = h.state == State.ALONE && r.sole ? Kind.OWN : Kind.ENDING;
                r.released = true;
                changed(r);
                write(h);
            }
        } else if (m.third == 1) {
            renew(h, m, m.address, t);
        } else {
            for (int a = 0; a < n; a++) {
                Rec r = h.recs.get(a);
                if (r.kind == Kind.BOUND && r.client == m.from && r.end > t) {
                    renew(h, m, a, t);
                    return;
                }
            }
            for (int a = 0; a < n; a++) {
                Rec r = h.recs.get(a);
                if (r.kind == Kind.OWN) {
                    changed(r);
                    bindIt(r, m.from, h.state == State.SERVING && m.amount > lead ? t + lead : t + m.amount, m.number);
                    r.since = r.version;
                    r.sole = r.sole || h.state == State.ALONE;
                    if (write(h)) {
                        answer(m, m.to, true, a, r.end);
                    }
                    return;
                }
            }
            answer(m, m.to, false, -1, 0);
        }
    }

    private static void bindIt(Rec r, int client, int end, int request) {
        r.kind = Kind.BOUND;
        r.client = client;
        r.end = end;
        r.request = request;
        r.released = false;
        r.known = 0;
    }

    private void renew(Host h, Letter m, int a, int t) {
        Rec r = h.recs.get(a);
        boolean bound = r.kind == Kind.BOUND && r.client == m.from;
        if (bound && r.request > m.number) {
            return;
        }
        if (bound && r.end > t) {
            r.request = m.number;
            int wish = t + m.amount;
            int cap = (r.known > t ? r.known : t) + lead;
            if (h.state == State.SERVING && wish > cap) {
                wish = cap;
            }
            if (wish > r.end) {
                r.end = wish;
            }
            changed(r);
            if (write(h)) {
                answer(m, m.to, true, a, r.end);
            }
            return;
        }
        answer(m, m.to, false, -1, 0);
    }

    private void hello(Host h, Letter m) {
        boolean lives = true;
        if (m.number > h.heard) {
            h.heard = m.number;
            if (h.state == State.ALONE) {
                h.state = State.SERVING;
                h.recs.forEach(r -> r.sole = false);
            }
            lives = write(h);
        }
        for (int a = 0; lives && a < n; a++) {
            post(update(m.to, a));
        }
    }

    private void update(Host h, Letter u) {
        Rec r = h.recs.get(u.address);
        if (u.epoch <= r.voided) {
            return;
        }
        r.fresh |= u.heard == h.epoch;
        boolean acks = u.number == r.seen;
        boolean writes = false;
        if (u.number > r.seen && takenIn(h, r, u)) {
            r.seen = u.number;
            acks = true;
            writes = true;
        }
        if (h.state == State.RECOVERING && h.recs.stream().allMatch(x -> x.fresh)) {
            h.state = State.SERVING;
            h.live = h.epoch;
            writes = true;
        }
        if ((!writes || write(h)) && acks) {
            post(new Letter(Type.ACK, u.from, u.to, 0, u.address, u.number,
                    u.third == Kind.BOUND.ordinal() ? u.amount : 0, h.epoch, 0, 0, 0, false, 0, 0, r.version));
        }
    }

    private boolean takenIn(Host h, Rec r, Letter u) {
        Kind told = Kind.values()[u.third];
        boolean first = u.voided >= h.live && h.state == State.RECOVERING;
        boolean second = r.kind == Kind.GIVEN && u.seen == r.version && told != Kind.OTHER;
        if (first || second) {
            r.kind = first && told == Kind.OTHER ? Kind.OWN : Kind.OTHER;
            r.pending = false;
        }
        boolean same = r.client == u.client;
        switch (told) {
            case BOUND:
                return boundTakenIn(r, u, same);
            case ENDING:
                boolean ends = r.kind == Kind.BOUND && same
                        && (r.end <= clock(h) || (u.released && u.request > r.request));
                boolean yields = r.kind == Kind.ENDING && same && u.to == 1;
                if (r.kind != Kind.OTHER && !ends && !yields) {
                    return false;
                }
                r.kind = Kind.OTHER;
                r.pending = false;
                r.end = Math.max(r.end, u.amount);
                return true;
            case GIVEN:
                if (r.kind != Kind.OTHER) {
                    return false;
                }
                r.kind = Kind.OWN;
                r.pending = false;
                return true;
            case OWN:
                return r.kind == Kind.OTHER;
            default:
                return true;
        }
    }

    private static boolean boundTakenIn(Rec r, Letter u, boolean same) {
        if (r.kind == Kind.OTHER) {
            bindIt(r, u.client, u.amount, u.request);
            r.since = r.version + 1;
            r.pending = false;
            return true;
        }
        if (r.kind == Kind.BOUND && same) {
            r.end = Math.max(r.end, u.amount);
            r.request = Math.max(r.request, u.request);
            return true;
        }
        if (r.kind == Kind.ENDING && same) {
            boolean again = u.request > r.request || (u.amount > r.end && !r.released);
            r.end = Math.max(r.end, u.amount);
            if (again) {
                r.kind = Kind.BOUND;
                r.released = false;
                r.request = Math.max(r.request, u.request);
                changed(r);
            }
            return true;
        }
        return false;
    }

    private void ack(Host h, Letter m) {
        Rec r = h.recs.get(m.address);
        if (m.epoch <= r.voided) {
            return;
        }
        boolean changes = false;
        if ((r.kind == Kind.BOUND || r.kind == Kind.ENDING) && m.number >= r.since && m.amount > r.known) {
            r.known = m.amount;
            changes = true;
        }
        if (m.number == r.version && r.pending) {
            r.pending = false;
            changes = true;
            boolean both = r.kind == Kind.ENDING || r.kind == Kind.GIVEN;
            r.kind = r.kind == Kind.ENDING ? Kind.OWN : r.kind == Kind.GIVEN ? Kind.OTHER : r.kind;
            if (both && m.ownVersion > r.seen) {
                r.seen = m.ownVersion;
            }
        }
        if (changes) {
            write(h);
        }
    }
}
