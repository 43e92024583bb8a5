/**
 * Two servers lease addresses to clients over a net that delays, repeats,
 * overtakes and loses messages.
 */
public final class LeasePair {
    public static final int NONE = -1;

    private static final int LEAST_ADDRESSES = 2;
    private static final int MOST_ADDRESSES = 32;
    private static final int LEAST_LEAD = 1;
    private static final int MOST_LEAD = 10000;
    private static final int MOST_SKEW = 1000;
    private static final int LATEST_TIME = 1000000000;
    private static final int MOST_SECONDS = 100000;
    private static final int MOST_FUSE = 100;
    private static final int MOST_GIVEN = 32;
    private static final int SERVERS = 2;
    private static final int CLIENTS = 16;
    private static final int NET_PLACES = 300;

    // States of a server.
    private static final int DEAD = 0;
    private static final int RECOVERING = 1;
    private static final int SERVING = 2;
    private static final int ALONE = 3;

    // Kinds of a record.
    private static final int OTHER = 0;
    private static final int OWN = 1;
    private static final int BOUND = 2;
    private static final int ENDING = 3;
    private static final int GIVEN = 4;

    // Types of a message.
    private static final int REQUEST = 0;
    private static final int ANSWER = 1;
    private static final int HELLO = 2;
    private static final int UPDATE = 3;
    private static final int ACK = 4;

    // Kinds of a request.
    private static final int NEW = 0;
    private static final int RENEW = 1;
    private static final int RELEASE = 2;

    // The kind of an answer that is a LEASE; that of a NO is 0.
    private static final int LEASE = 1;

    // Instead of an address: a request that nothing is answered to.
    private static final int SILENT = -2;

    private final int addresses;
    private final int skew;
    private final Server[] servers;
    private final Client[] clients;
    private final Net net;
    private final Message inHand;
    private int time;
    private int most;

    public LeasePair(int addresses, int lead, int skew) {
        this.addresses = within(addresses, LEAST_ADDRESSES, MOST_ADDRESSES);
        this.skew = within(skew, 0, MOST_SKEW);
        int usedLead = within(lead, LEAST_LEAD, MOST_LEAD);
        servers = new Server[SERVERS];
        for (int i = 0; i < SERVERS; i++) {
            servers[i] = new Server(i, this.addresses, usedLead, this.skew);
        }
        clients = new Client[CLIENTS];
        for (int i = 0; i < CLIENTS; i++) {
            clients[i] = new Client();
        }
        net = new Net();
        inHand = new Message();
    }

    public int seconds(int n) throws IllegalArgumentException {
        need(isWithin(n, 0, MOST_SECONDS) && n <= LATEST_TIME - time);
        time += n;
        return time;
    }

    public int skew(int server, int offset) throws IllegalArgumentException {
        Server s = serverOf(server);
        need(isWithin(offset, 0, skew));
        int before = s.offset;
        s.offset = offset;
        return before;
    }

    public boolean kill(int server) throws IllegalArgumentException {
        Server s = serverOf(server);
        boolean lived = s.state != DEAD;
        s.die();
        return lived;
    }

    public void fuse(int server, int n) throws IllegalArgumentException {
        Server s = serverOf(server);
        need(isWithin(n, 0, MOST_FUSE));
        s.writesLeft = n;
    }

    public boolean start(int server) throws IllegalArgumentException {
        Server s = serverOf(server);
        if (s.state != DEAD) {
            return false;
        }
        s.comeUp();
        s.sendHello(net);
        return true;
    }

    public boolean partnerDown(int server) throws IllegalArgumentException {
        Server s = serverOf(server);
        if (s.state != SERVING || servers[s.partner].state != DEAD) {
            return false;
        }
        s.goAlone(clockOf(s));
        return true;
    }

    public int ask(int client, int kind, int server, int address, int seconds)
            throws IllegalArgumentException {
        Client c = clientOf(client);
        need(isWithin(kind, NEW, RELEASE));
        need(isWithin(server, 0, SERVERS - 1));
        need(isWithin(address, 0, addresses - 1));
        need(isWithin(seconds, 1, MOST_SECONDS));
        c.request(kind);
        Message m = net.add(REQUEST, client, server);
        m.kind = kind;
        m.number = c.lastRequest;
        if (kind != NEW) {
            m.address = address;
        }
        if (kind != RELEASE) {
            m.amount = seconds;
        }
        return c.lastRequest;
    }

    public int send(int server) throws IllegalArgumentException {
        Server s = serverOf(server);
        return s.state == DEAD ? NONE : s.sendPending(net);
    }

    public int tidy(int server) throws IllegalArgumentException {
        Server s = serverOf(server);
        return s.serves() ? s.endWhatIsOver(clockOf(s)) : NONE;
    }

    public int give(int server, int n) throws IllegalArgumentException {
        Server s = serverOf(server);
        need(isWithin(n, 1, MOST_GIVEN));
        return s.state == SERVING ? s.handOver(n) : NONE;
    }

    public boolean carry(int place) throws IllegalArgumentException {
        need(net.has(place));
        // What is sent while it is heard may push it off the net: hence a copy.
        inHand.copy(net.at(place));
        return deliver(inHand);
    }

    public int carryAll() {
        int many = net.takeAll();
        for (int i = 0; i < many; i++) {
            deliver(net.takenAt(i));
        }
        return many;
    }

    public int drop(int place) throws IllegalArgumentException {
        need(net.has(place));
        net.remove(place);
        return net.count;
    }

    public int messages() {
        return net.count;
    }

    public int message(int place, int what) throws IllegalArgumentException {
        need(net.has(place) && isWithin(what, 0, 6));
        return net.at(place).tell(what);
    }

    public int client(int client, int what) throws IllegalArgumentException {
        Client c = clientOf(client);
        need(isWithin(what, 0, 2));
        switch (what) {
            case 0:
                return c.holds(time, skew) ? c.address : NONE;
            case 1:
                return c.until;
            default:
                return c.lastRequest;
        }
    }

    public int record(int server, int address, int what) throws IllegalArgumentException {
        Server s = serverOf(server);
        need(isWithin(address, 0, addresses - 1) && isWithin(what, 0, 9));
        return s.records[address].tell(what);
    }

    public int server(int server, int what) throws IllegalArgumentException {
        Server s = serverOf(server);
        need(isWithin(what, 0, 8));
        return s.tell(what, clockOf(s));
    }

    public int most() {
        return most;
    }

    private static int within(int value, int least, int greatest) {
        return Math.min(Math.max(value, least), greatest);
    }

    private static boolean isWithin(int value, int least, int greatest) {
        return value >= least && value <= greatest;
    }

    private static void need(boolean legal) {
        if (!legal) {
            throw new IllegalArgumentException();
        }
    }

    private Server serverOf(int number) {
        need(isWithin(number, 0, SERVERS - 1));
        return servers[number];
    }

    private Client clientOf(int number) {
        need(isWithin(number, 0, CLIENTS - 1));
        return clients[number];
    }

    private int clockOf(Server s) {
        return time + s.offset;
    }

    private boolean deliver(Message m) {
        if (m.type == ANSWER) {
            return deliverAnswer(m);
        }
        Server s = servers[m.to];
        if (!s.hears(m.type)) {
            return false;
        }
        switch (m.type) {
            case REQUEST:
                s.hearRequest(m, clockOf(s), net);
                break;
            case HELLO:
                s.hearHello(m, net);
                break;
            case UPDATE:
                s.hearUpdate(m, clockOf(s), net);
                break;
            default:
                s.hearAck(m);
                break;
        }
        return true;
    }

    private boolean deliverAnswer(Message m) {
        Client c = clients[m.to];
        if (!c.awaits(m.number)) {
            return false;
        }
        if (m.kind == LEASE) {
            c.takeLease(m.address, m.amount);
            // Only here can one more client come to hold an address.
            most = Math.max(most, countHolders(m.address));
        }
        return true;
    }

    private int countHolders(int address) {
        int holders = 0;
        for (int i = 0; i < CLIENTS; i++) {
            if (clients[i].address == address && clients[i].holds(time, skew)) {
                holders++;
            }
        }
        return holders;
    }

    /** A client: the number and kind of its last request, and its lease. */
    private static final class Client {
        int lastRequest;
        int lastKind;
        int address;
        int until;

        Client() {
            address = NONE;
        }

        void request(int kind) {
            lastRequest++;
            lastKind = kind;
            if (kind == RELEASE) {
                takeLease(NONE, 0);
            }
        }

        boolean awaits(int number) {
            return number == lastRequest && lastKind != RELEASE;
        }

        void takeLease(int newAddress, int newUntil) {
            address = newAddress;
            until = newUntil;
        }

        boolean holds(int time, int skew) {
            return address != NONE && time < until - skew;
        }
    }

    /** A message of any type; what a type does not use is not looked at. */
    private static final class Message {
        int type;
        int from;
        int to;
        int kind;
        int address;
        /** Of a request, an answer: the request's number; HELLO: the epoch; else the version. */
        int number;
        /** Seconds, until or end. */
        int amount;
        int epoch;
        int heard;
        int client;
        int request;
        boolean released;
        int seen;
        int voidUpTo;
        /** Of an ACK: the version of the sender's own record. */
        int ownVersion;

        /** The sender puts in its number, and what else its type has. */
        void begin(int newType, int sender, int receiver) {
            type = newType;
            from = sender;
            to = receiver;
            kind = 0;
            address = NONE;
            amount = 0;
        }

        void copy(Message m) {
            type = m.type;
            from = m.from;
            to = m.to;
            kind = m.kind;
            address = m.address;
            number = m.number;
            amount = m.amount;
            epoch = m.epoch;
            heard = m.heard;
            client = m.client;
            request = m.request;
            released = m.released;
            seen = m.seen;
            voidUpTo = m.voidUpTo;
            ownVersion = m.ownVersion;
        }

        int tell(int what) {
            switch (what) {
                case 0:
                    return type;
                case 1:
                    return to;
                case 2:
                    return from;
                case 3:
                    return kind;
                case 4:
                    return address;
                case 5:
                    return number;
                default:
                    return amount;
            }
        }
    }

    /**
     * The net: a ring of messages that are used again and again, and beside it
     * those that carryAll() has taken from it.
     */
    private static final class Net {
        Message[] ring;
        Message[] taken;
        int first;
        int firstTaken;
        int count;

        Net() {
            ring = new Message[NET_PLACES];
            taken = new Message[NET_PLACES];
            for (int i = 0; i < NET_PLACES; i++) {
                ring[i] = new Message();
                taken[i] = new Message();
            }
        }

        boolean has(int place) {
            return isWithin(place, 0, count - 1);
        }

        Message at(int place) {
            return ring[(first + place) % NET_PLACES];
        }

        Message takenAt(int place) {
            return taken[(firstTaken + place) % NET_PLACES];
        }

        Message add(int type, int sender, int receiver) {
            if (count == NET_PLACES) {
                first = (first + 1) % NET_PLACES;
            } else {
                count++;
            }
            Message m = at(count - 1);
            m.begin(type, sender, receiver);
            return m;
        }

        void remove(int place) {
            Message lost = at(place);
            for (int i = place; i < count - 1; i++) {
                ring[(first + i) % NET_PLACES] = at(i + 1);
            }
            ring[(first + count - 1) % NET_PLACES] = lost;
            count--;
        }

        int takeAll() {
            Message[] full = ring;
            ring = taken;
            taken = full;
            firstTaken = first;
            first = 0;
            int many = count;
            count = 0;
            return many;
        }
    }

    /** What a server knows of one address. */
    private static final class LeaseRecord {
        int kind;
        int client;
        int end;
        int request;
        boolean released;
        int version;
        int since;
        boolean pending;
        int known;
        int seen;
        int voidUpTo;
        boolean sole;
        boolean fresh;

        LeaseRecord(int firstKind) {
            kind = firstKind;
            client = NONE;
        }

        boolean isBoundTo(int someone) {
            return kind == BOUND && client == someone;
        }

        void change() {
            version++;
            pending = true;
        }

        void changeTo(int newKind) {
            kind = newKind;
            change();
        }

        void bind(int newClient, int newEnd, int newRequest, int newSince) {
            kind = BOUND;
            client = newClient;
            end = newEnd;
            request = newRequest;
            released = false;
            since = newSince;
            known = 0;
        }

        void settle(int newKind) {
            kind = newKind;
            pending = false;
        }

        boolean takeBound(Message update) {
            if (kind == OTHER) {
                bind(update.client, update.amount, update.request, version + 1);
                pending = false;
                return true;
            }
            if (client != update.client || (kind != BOUND && kind != ENDING)) {
                return false;
            }
            if (kind == BOUND) {
                request = Math.max(request, update.request);
            } else if (update.request > request || (update.amount > end && !released)) {
                request = Math.max(request, update.request);
                released = false;
                changeTo(BOUND);
            }
            end = Math.max(end, update.amount);
            return true;
        }

        boolean takeEnding(Message update, int clock, boolean yields) {
            if (kind == OTHER) {
                end = Math.max(end, update.amount);
                return true;
            }
            if (client != update.client || !mayEnd(update, clock, yields)) {
                return false;
            }
            end = Math.max(end, update.amount);
            settle(OTHER);
            return true;
        }

        /** When both are ENDING just one server may yield, or the address would be nobody's. */
        boolean mayEnd(Message update, int clock, boolean yields) {
            if (kind == BOUND) {
                return end <= clock || (update.released && update.request > request);
            }
            return kind == ENDING && yields;
        }

        boolean takeGiven() {
            if (kind != OTHER) {
                return false;
            }
            settle(OWN);
            return true;
        }

        boolean learnKnown(Message ack) {
            boolean counts = (kind == BOUND || kind == ENDING) && ack.number >= since;
            if (!counts || ack.amount <= known) {
                return false;
            }
            known = ack.amount;
            return true;
        }

        boolean learnAcknowledged(Message ack) {
            if (!pending || ack.number != version) {
                return false;
            }
            pending = false;
            if (kind == ENDING || kind == GIVEN) {
                kind = kind == ENDING ? OWN : OTHER;
                seen = Math.max(seen, ack.ownVersion);
            }
            return true;
        }

        int tell(int what) {
            switch (what) {
                case 0:
                    return kind;
                case 1:
                    return client;
                case 2:
                    return end;
                case 3:
                    return request;
                case 4:
                    return version;
                case 5:
                    return known;
                case 6:
                    return seen;
                case 7:
                    return voidUpTo;
                case 8:
                    return since;
                default:
                    return (pending ? 1 : 0) + (released ? 2 : 0) + (sole ? 4 : 0);
            }
        }
    }

    /** A server with its records; the time and the net are lent to it for each call. */
    private static final class Server {
        final int number;
        final int partner;
        final int lead;
        final int skew;
        final LeaseRecord[] records;
        int offset;
        int state;
        int epoch;
        int live;
        int heard;
        int declared;
        int writes;
        /** The fuse: 0 for none. */
        int writesLeft;

        Server(int number, int addresses, int lead, int skew) {
            this.number = number;
            this.partner = 1 - number;
            this.lead = lead;
            this.skew = skew;
            records = new LeaseRecord[addresses];
            for (int i = 0; i < addresses; i++) {
                records[i] = new LeaseRecord(i % 2 == number ? OWN : OTHER);
            }
            state = SERVING;
            epoch = 1;
            live = 1;
            heard = 1;
        }

        boolean serves() {
            return state == SERVING || state == ALONE;
        }

        boolean hears(int type) {
            return type == REQUEST ? serves() : state != DEAD;
        }

        void die() {
            state = DEAD;
            writesLeft = 0;
        }

        void write() {
            writes++;
            if (writesLeft == 1) {
                die();
            } else if (writesLeft > 1) {
                writesLeft--;
            }
        }

        void comeUp() {
            epoch++;
            state = RECOVERING;
            for (int i = 0; i < records.length; i++) {
                records[i].fresh = false;
                records[i].sole = false;
            }
            // A fuse laid while it was dead is gone before the write of the start.
            writesLeft = 0;
            write();
        }

        void goAlone(int clock) {
            state = ALONE;
            declared = clock;
            for (int i = 0; i < records.length; i++) {
                records[i].sole = records[i].kind == OWN;
            }
            write();
        }

        void hearRequest(Message request, int clock, Net net) {
            if (request.kind == RELEASE) {
                release(request);
                return;
            }
            int address = request.kind == RENEW ? request.address : leasedTo(request.from, clock);
            int leased = address == NONE
                    ? leaseNew(request, clock) : renew(request, address, clock);
            if (leased == SILENT) {
                return;
            }
            if (leased != NONE) {
                write();
            }
            if (state != DEAD) {
                answer(request, leased, net);
            }
        }

        int leasedTo(int client, int clock) {
            for (int i = 0; i < records.length; i++) {
                if (records[i].isBoundTo(client) && records[i].end > clock) {
                    return i;
                }
            }
            return NONE;
        }

        int leastOwn() {
            for (int i = 0; i < records.length; i++) {
                if (records[i].kind == OWN) {
                    return i;
                }
            }
            return NONE;
        }

        /** Which address is leased, NONE for none. */
        int leaseNew(Message request, int clock) {
            int address = leastOwn();
            if (address == NONE) {
                return NONE;
            }
            LeaseRecord r = records[address];
            int end = clock + request.amount;
            if (state == SERVING) {
                end = Math.min(end, clock + lead);
            } else {
                r.sole = true;
            }
            r.change();
            r.bind(request.from, end, request.number, r.version);
            return address;
        }

        /** Which address is leased, NONE for none, SILENT for a request that is overtaken. */
        int renew(Message request, int address, int clock) {
            LeaseRecord r = records[address];
            if (!r.isBoundTo(request.from)) {
                return NONE;
            }
            if (r.request > request.number) {
                return SILENT;
            }
            if (r.end <= clock) {
                return NONE;
            }
            int end = clock + request.amount;
            if (state == SERVING) {
                end = Math.min(end, Math.max(r.known, clock) + lead);
            }
            r.request = request.number;
            r.end = Math.max(r.end, end);
            r.change();
            return address;
        }

        void answer(Message request, int leased, Net net) {
            Message m = net.add(ANSWER, number, request.from);
            m.number = request.number;
            if (leased != NONE) {
                m.kind = LEASE;
                m.address = leased;
                m.amount = records[leased].end;
            }
        }

        void release(Message request) {
            LeaseRecord r = records[request.address];
            if (!r.isBoundTo(request.from) || r.request > request.number) {
                return;
            }
            r.request = request.number;
            r.released = true;
            r.changeTo(state == ALONE && r.sole ? OWN : ENDING);
            write();
        }

        void hearHello(Message hello, Net net) {
            if (hello.number > heard) {
                heard = hello.number;
                if (state == ALONE) {
                    rejoin();
                }
                write();
            }
            if (state != DEAD) {
                sendAll(net);
            }
        }

        void rejoin() {
            state = SERVING;
            for (int i = 0; i < records.length; i++) {
                records[i].sole = false;
            }
        }

        void hearUpdate(Message update, int clock, Net net) {
            LeaseRecord r = records[update.address];
            if (update.epoch <= r.voidUpTo) {
                return;
            }
            if (update.heard == epoch) {
                r.fresh = true;
            }
            boolean repeated = update.number == r.seen;
            boolean takenIn = update.number > r.seen && takeIn(update, r, clock);
            if (takenIn) {
                r.seen = update.number;
            }
            boolean recovered = recover();
            if (takenIn || recovered) {
                write();
            }
            if ((takenIn || repeated) && state != DEAD) {
                acknowledge(update, r, net);
            }
        }

        boolean takeIn(Message update, LeaseRecord r, int clock) {
            giveWay(update, r);
            switch (update.kind) {
                case BOUND:
                    return r.takeBound(update);
                case ENDING:
                    return r.takeEnding(update, clock, number == 1);
                case GIVEN:
                    return r.takeGiven();
                case OWN:
                    return r.kind == OTHER;
                default:
                    return true;
            }
        }

        /** What the partner took over, or has of what was given to it, is its word's alone. */
        void giveWay(Message update, LeaseRecord r) {
            boolean takenOver = state == RECOVERING && update.voidUpTo >= live;
            boolean handedOver = r.kind == GIVEN && update.seen == r.version
                    && update.kind != OTHER;
            if (takenOver || handedOver) {
                r.settle(takenOver && update.kind == OTHER ? OWN : OTHER);
            }
        }

        boolean recover() {
            if (state != RECOVERING || !allFresh()) {
                return false;
            }
            state = SERVING;
            live = epoch;
            return true;
        }

        boolean allFresh() {
            for (int i = 0; i < records.length; i++) {
                if (!records[i].fresh) {
                    return false;
                }
            }
            return true;
        }

        void acknowledge(Message update, LeaseRecord r, Net net) {
            Message m = net.add(ACK, number, partner);
            m.address = update.address;
            m.number = update.number;
            m.amount = update.kind == BOUND ? update.amount : 0;
            m.epoch = epoch;
            m.ownVersion = r.version;
        }

        void hearAck(Message ack) {
            LeaseRecord r = records[ack.address];
            if (ack.epoch <= r.voidUpTo) {
                return;
            }
            // In this order: an ENDING record still learns what is known before it is OWN.
            boolean learned = r.learnKnown(ack);
            boolean acknowledged = r.learnAcknowledged(ack);
            if (learned || acknowledged) {
                write();
            }
        }

        void sendHello(Net net) {
            Message m = net.add(HELLO, number, partner);
            m.number = epoch;
        }

        void sendUpdate(int address, Net net) {
            LeaseRecord r = records[address];
            Message m = net.add(UPDATE, number, partner);
            m.address = address;
            m.epoch = epoch;
            m.heard = heard;
            m.number = r.version;
            m.kind = r.kind;
            m.client = r.client;
            m.amount = r.end;
            m.request = r.request;
            m.released = r.released;
            m.seen = r.seen;
            m.voidUpTo = r.voidUpTo;
        }

        void sendAll(Net net) {
            for (int i = 0; i < records.length; i++) {
                sendUpdate(i, net);
            }
        }

        int sendPending(Net net) {
            int sent = 0;
            if (state == RECOVERING) {
                sendHello(net);
                sent++;
            }
            for (int i = 0; i < records.length; i++) {
                if (records[i].pending) {
                    sendUpdate(i, net);
                    sent++;
                }
            }
            return sent;
        }

        int endWhatIsOver(int clock) {
            int changed = 0;
            for (int i = 0; i < records.length; i++) {
                LeaseRecord r = records[i];
                if (state == SERVING ? endTogether(r, clock) : endAlone(r, clock)) {
                    changed++;
                }
            }
            if (changed > 0) {
                write();
            }
            return changed;
        }

        boolean endTogether(LeaseRecord r, int clock) {
            if (r.kind != BOUND || r.end > clock) {
                return false;
            }
            r.changeTo(ENDING);
            return true;
        }

        boolean endAlone(LeaseRecord r, int clock) {
            return r.sole ? endSole(r, clock) : takeOver(r, clock);
        }

        boolean endSole(LeaseRecord r, int clock) {
            boolean isOver = r.kind == ENDING || (r.kind == BOUND && r.end <= clock);
            if (isOver) {
                r.changeTo(OWN);
            }
            return isOver;
        }

        boolean takeOver(LeaseRecord r, int clock) {
            // The dead partner may have promised so much until it was declared down.
            int promised = Math.max(r.end, declared + skew) + lead;
            if (r.kind == OWN || clock < promised) {
                return false;
            }
            r.sole = true;
            r.voidUpTo = heard;
            r.seen = NONE;
            r.changeTo(OWN);
            return true;
        }

        int handOver(int n) {
            int given = 0;
            for (int i = 0; i < records.length && given < n; i++) {
                if (records[i].kind == OWN) {
                    records[i].changeTo(GIVEN);
                    given++;
                }
            }
            if (given > 0) {
                write();
            }
            return given;
        }

        int countOwn() {
            int own = 0;
            for (int i = 0; i < records.length; i++) {
                if (records[i].kind == OWN) {
                    own++;
                }
            }
            return own;
        }

        int countPending() {
            int pending = 0;
            for (int i = 0; i < records.length; i++) {
                if (records[i].pending) {
                    pending++;
                }
            }
            return pending;
        }

        int tell(int what, int clock) {
            switch (what) {
                case 0:
                    return state;
                case 1:
                    return clock;
                case 2:
                    return epoch;
                case 3:
                    return heard;
                case 4:
                    return live;
                case 5:
                    return declared;
                case 6:
                    return countOwn();
                case 7:
                    return countPending();
                default:
                    return writes;
            }
        }
    }
}
