/**
 * Two servers that lend the same addresses to clients for a time, and tell each other of it by
 * messages that may be lost or overtake one another.
 */
public final class LeasePair {
    private static final int SERVERS = 2;
    private static final int CLIENTS = 5;
    private static final int ADDRESSES = 6;
    private static final int ALL_ADDRESSES = 63;
    private static final int LIST_LIMIT = 24;

    private static final int NONE = -1;
    private static final int NO_SUCH_THING = -2;

    private static final int STOPPED = 0;
    private static final int NORMAL = 1;
    private static final int INTERRUPTED = 2;
    private static final int ALONE = 3;
    private static final int RECOVERING = 4;

    private static final int FREE = 0;
    private static final int LENT = 1;
    private static final int OVER = 2;

    private static final int ASK = 0;
    private static final int LEASE = 1;
    private static final int DENIAL = 2;
    private static final int RELEASE = 3;
    private static final int UPDATE = 4;
    private static final int ACKNOWLEDGEMENT = 5;
    private static final int DEMAND = 6;

    /** How long a lease is at most. */
    private static final int FULL_LEASE = 20;
    /** How far a server may go beyond what its partner has acknowledged. */
    private static final int LEAD = 6;
    private static final int MESSAGE_LIFE = 3;
    private static final int PAUSE_AFTER_RELEASE = 4;
    private static final int UPDATES_A_TICK = 2;

    private int time;
    private boolean linkIsUp;
    private final Server[] servers;
    private final Client[] clients;
    private final MessageList list;

    public LeasePair() {
        time = 0;
        linkIsUp = true;
        servers = new Server[SERVERS];
        for (int s = 0; s < SERVERS; s++) {
            servers[s] = new Server(s);
        }
        clients = new Client[CLIENTS];
        for (int c = 0; c < CLIENTS; c++) {
            clients[c] = new Client();
        }
        list = new MessageList();
    }

    public int tick() {
        time++;
        list.removeSentBefore(time - MESSAGE_LIFE);
        for (int c = 0; c < CLIENTS; c++) {
            clients[c].dropExpired(time);
        }
        for (int s = 0; s < SERVERS; s++) {
            if (servers[s].state != STOPPED) {
                tickServer(servers[s]);
            }
        }
        return time;
    }

    public boolean ask(int client, int server) {
        if (!isClient(client) || !isServer(server) || clients[client].pauses(time)) {
            return false;
        }
        Client asker = clients[client];
        asker.ticket++;
        asker.waiting = true;
        sendWithTicket(ASK, client, server, asker.ticket);
        return true;
    }

    public boolean release(int client, int server) {
        if (!isClient(client) || !isServer(server) || clients[client].address == NONE) {
            return false;
        }
        Client holder = clients[client];
        Message sent = list.append(RELEASE, client, server, time);
        if (sent != null) {
            sent.address = holder.address;
        }
        holder.holdNone();
        holder.waiting = false;
        holder.releasedAt = time;
        return true;
    }

    public boolean deliver(int k) {
        if (!list.has(k)) {
            return false;
        }
        Message message = list.take(k);
        if (!canArrive(message)) {
            return false;
        }
        arrive(message);
        return true;
    }

    public boolean lose(int k) {
        if (!list.has(k)) {
            return false;
        }
        list.take(k);
        return true;
    }

    public boolean stop(int server) {
        if (!isServer(server) || isDownOrRecovering(servers[0]) || isDownOrRecovering(servers[1])) {
            return false;
        }
        servers[server].state = STOPPED;
        list.removeBetweenServers();
        return true;
    }

    public boolean start(int server) {
        if (!isServer(server) || servers[server].state != STOPPED || !linkIsUp) {
            return false;
        }
        servers[server].beginRecovery(time);
        return true;
    }

    public boolean alone(int server) {
        if (!isServer(server) || partnerOf(servers[server]).state != STOPPED) {
            return false;
        }
        Server left = servers[server];
        if (left.state != NORMAL && left.state != INTERRUPTED) {
            return false;
        }
        left.state = ALONE;
        left.since = time;
        return true;
    }

    public boolean link(boolean up) {
        if (linkIsUp == up) {
            return false;
        }
        linkIsUp = up;
        return true;
    }

    public int state(int server) {
        return isServer(server) ? servers[server].state : NONE;
    }

    public int entry(int server, int address, int what) {
        if (!isServer(server) || address < 0 || address >= ADDRESSES) {
            return NO_SUCH_THING;
        }
        return servers[server].records[address].look(what);
    }

    public int client(int client, int what) {
        return isClient(client) ? clients[client].look(what) : NO_SUCH_THING;
    }

    public int messages() {
        return list.count;
    }

    public int message(int k, int what) {
        return list.has(k) ? list.rows[k].look(what) : NO_SUCH_THING;
    }

    private static boolean isServer(int number) {
        return number >= 0 && number < SERVERS;
    }

    private static boolean isClient(int number) {
        return number >= 0 && number < CLIENTS;
    }

    private static boolean isDownOrRecovering(Server server) {
        return server.state == STOPPED || server.state == RECOVERING;
    }

    private Server partnerOf(Server server) {
        return servers[1 - server.number];
    }

    private boolean hasContact() {
        return linkIsUp && servers[0].state != STOPPED && servers[1].state != STOPPED;
    }

    private void tickServer(Server server) {
        server.followContact(hasContact(), time);
        if (server.serves()) {
            server.endExpired(time);
        }
        if (hasContact()) {
            tellPartner(server);
        }
    }

    private void tellPartner(Server server) {
        if (server.state == NORMAL) {
            sendUpdates(server);
        }
        if (server.state == RECOVERING && server.got != ALL_ADDRESSES) {
            sendDemand(server);
        }
    }

    private void sendUpdates(Server server) {
        int sent = 0;
        for (int a = 0; a < ADDRESSES && sent < UPDATES_A_TICK; a++) {
            if (server.records[a].dirty) {
                sendUpdate(server, a);
                sent++;
            }
        }
    }

    private void sendUpdate(Server server, int address) {
        Message update = list.append(UPDATE, server.number, 1 - server.number, time);
        if (update != null) {
            LeaseRecord record = server.records[address];
            update.address = address;
            update.recordKind = record.kind;
            update.client = record.client;
            update.until = record.until;
            update.age = record.age;
            update.serial = record.serial;
            update.potential = time + FULL_LEASE;
            update.session = server.partnerSession;
        }
    }

    private void sendDemand(Server server) {
        Message demand = list.append(DEMAND, server.number, 1 - server.number, time);
        if (demand != null) {
            demand.set = ALL_ADDRESSES & ~server.got;
            demand.session = server.session;
        }
    }

    private void sendWithTicket(int kind, int from, int to, int ticket) {
        Message sent = list.append(kind, from, to, time);
        if (sent != null) {
            sent.ticket = ticket;
        }
    }

    private void sendLease(Message ask, int address, int until) {
        Message lease = list.append(LEASE, ask.to, ask.from, time);
        if (lease != null) {
            lease.ticket = ask.ticket;
            lease.address = address;
            lease.until = until;
        }
    }

    private void acknowledge(Message update) {
        Message answer = list.append(ACKNOWLEDGEMENT, update.to, update.from, time);
        if (answer != null) {
            answer.address = update.address;
            answer.age = update.age;
            answer.serial = update.serial;
            answer.potential = update.potential;
        }
    }

    private boolean canArrive(Message message) {
        if (message.isBetweenServers()) {
            return hasContact();
        }
        return !message.goesToServer() || servers[message.to].state != STOPPED;
    }

    private void arrive(Message message) {
        switch (message.kind) {
            case ASK:
                arriveAsk(message);
                break;
            case LEASE:
                clients[message.to].takeLease(message, time);
                break;
            case DENIAL:
                clients[message.to].takeDenial(message);
                break;
            case RELEASE:
                arriveRelease(message);
                break;
            case UPDATE:
                arriveUpdate(message);
                break;
            case ACKNOWLEDGEMENT:
                arriveAcknowledgement(message);
                break;
            default:
                arriveDemand(message);
                break;
        }
    }

    private void arriveAsk(Message ask) {
        Server server = servers[ask.to];
        if (!server.serves()) {
            return;
        }
        int address = server.choose(ask.from, time);
        if (address == NONE) {
            sendWithTicket(DENIAL, ask.to, ask.from, ask.ticket);
            return;
        }
        LeaseRecord record = server.records[address];
        record.lend(ask.from, time, server.state == ALONE);
        sendLease(ask, address, record.until);
    }

    private void arriveRelease(Message message) {
        Server server = servers[message.to];
        LeaseRecord record = server.records[message.address];
        if (server.serves() && record.isLentTo(message.from)) {
            record.end();
        }
    }

    private void arriveUpdate(Message update) {
        if (servers[update.to].takeUpdate(update, time)) {
            acknowledge(update);
        }
    }

    private void arriveAcknowledgement(Message answer) {
        Server server = servers[answer.to];
        if (server.serves()) {
            server.records[answer.address].takeAcknowledgement(answer);
        }
    }

    private void arriveDemand(Message demand) {
        Server server = servers[demand.to];
        if (!server.serves()) {
            return;
        }
        server.partnerSession = demand.session;
        server.markDirty(demand.set);
        if (server.state == ALONE) {
            server.state = NORMAL;
        }
    }

    /** What one server knows of one address. */
    private static final class LeaseRecord {
        private int kind;
        private int client;
        private int until;
        private int acked;
        private int known;
        private int age;
        private int serial;
        private boolean dirty;

        private LeaseRecord() {
            kind = FREE;
            client = NONE;
        }

        private boolean runs(int now) {
            return kind == LENT && until >= now;
        }

        private boolean isLentTo(int who) {
            return kind == LENT && client == who;
        }

        private boolean isLongPast(int now) {
            return until + LEAD < now && known + LEAD < now;
        }

        private void change() {
            serial++;
            dirty = true;
        }

        private void end() {
            kind = OVER;
            change();
        }

        private void lend(int who, int now, boolean alone) {
            if (!isLentTo(who)) {
                age++;
                until = 0;
                acked = 0;
                known = 0;
            }
            int promised = now + FULL_LEASE;
            if (!alone) {
                promised = Math.min(promised, Math.max(now, acked) + LEAD);
            }
            until = Math.max(until, promised);
            kind = LENT;
            client = who;
            change();
        }

        private void clear() {
            kind = FREE;
            client = NONE;
            until = 0;
            acked = 0;
            known = 0;
        }

        private void becomeFree(Message update) {
            clear();
            age = update.age;
            dirty = false;
        }

        private void becomeLent(Message update) {
            kind = LENT;
            client = update.client;
            until = update.until;
            acked = 0;
            known = update.potential;
            age = update.age;
            dirty = false;
        }

        /** The first update of this address after a start; answers whether it was taken. */
        private boolean recover(Message update, int now) {
            boolean ran = runs(now);
            int ranUntil = until;
            if (ran && !isSameLease(update)) {
                return false;
            }
            if (update.recordKind != LENT) {
                becomeFree(update);
                return true;
            }
            becomeLent(update);
            if (ran) {
                until = Math.max(until, ranUntil);
            }
            return true;
        }

        private boolean isSameLease(Message update) {
            return update.recordKind == LENT && update.client == client && update.age == age;
        }

        /** Any other update; answers whether it was taken. */
        private boolean takeUpdate(Message update, int now) {
            if (update.age < age) {
                return false;
            }
            if (update.recordKind == LENT) {
                return update.until >= now && takeLent(update, now);
            }
            boolean mayBeFreed = update.recordKind == OVER ? !runs(now) : kind == FREE;
            if (mayBeFreed) {
                becomeFree(update);
            }
            return mayBeFreed;
        }

        private boolean takeLent(Message update, int now) {
            if (update.age > age) {
                if (runs(now)) {
                    return false;
                }
                becomeLent(update);
                return true;
            }
            // Within one age a record is never lent again.
            if (kind != LENT) {
                return false;
            }
            until = Math.max(until, update.until);
            known = Math.max(known, update.potential);
            return true;
        }

        private void takeAcknowledgement(Message answer) {
            if (!dirty || answer.age != age || answer.serial != serial) {
                return;
            }
            dirty = false;
            if (kind == LENT) {
                acked = Math.max(acked, answer.potential);
            }
            if (kind == OVER) {
                clear();
            }
        }

        private int look(int what) {
            switch (what) {
                case 0:
                    return kind;
                case 1:
                    return client;
                case 2:
                    return until;
                case 3:
                    return acked;
                case 4:
                    return known;
                case 5:
                    return age;
                case 6:
                    return serial;
                case 7:
                    return dirty ? 1 : 0;
                default:
                    return NO_SUCH_THING;
            }
        }
    }

    private static final class Server {
        private final int number;
        private final LeaseRecord[] records;
        private int state;
        private int since;
        private int session;
        private int partnerSession;
        /** Bit a: address a has been got since the latest start. */
        private int got;

        private Server(int number) {
            this.number = number;
            state = NORMAL;
            records = new LeaseRecord[ADDRESSES];
            for (int a = 0; a < ADDRESSES; a++) {
                records[a] = new LeaseRecord();
            }
        }

        private boolean serves() {
            return state == NORMAL || state == INTERRUPTED || state == ALONE;
        }

        private boolean hasGot(int address) {
            return (got >> address & 1) == 1;
        }

        private boolean isPastLead(int now) {
            return now > since + LEAD;
        }

        private void beginRecovery(int now) {
            state = RECOVERING;
            since = now;
            session++;
            got = 0;
        }

        private void followContact(boolean contact, int now) {
            if (state == NORMAL && !contact) {
                state = INTERRUPTED;
            } else if (state == INTERRUPTED && contact) {
                state = NORMAL;
            } else if (state == RECOVERING && contact && got == ALL_ADDRESSES && isPastLead(now)) {
                state = NORMAL;
            }
        }

        /** Answers whether the update was taken, and so is to be acknowledged. */
        private boolean takeUpdate(Message update, int now) {
            LeaseRecord record = records[update.address];
            if (state != RECOVERING) {
                return record.takeUpdate(update, now);
            }
            if (update.session != session) {
                return false;
            }
            if (hasGot(update.address)) {
                return record.takeUpdate(update, now);
            }
            boolean taken = record.recover(update, now);
            if (taken) {
                got |= 1 << update.address;
            }
            return taken;
        }

        private void endExpired(int now) {
            for (int a = 0; a < ADDRESSES; a++) {
                if (records[a].kind == LENT && records[a].until < now) {
                    records[a].end();
                }
            }
        }

        private void markDirty(int set) {
            for (int a = 0; a < ADDRESSES; a++) {
                if ((set >> a & 1) == 1) {
                    records[a].dirty = true;
                }
            }
        }

        /** The address to lend to this client, or NONE. */
        private int choose(int client, int now) {
            int address = leastLentTo(client);
            if (address == NONE) {
                address = leastFree(true);
            }
            if (address != NONE || state != ALONE || !isPastLead(now)) {
                return address;
            }
            address = leastFree(false);
            return address == NONE ? leastLongPast(now) : address;
        }

        private int leastLentTo(int client) {
            for (int a = 0; a < ADDRESSES; a++) {
                if (records[a].isLentTo(client)) {
                    return a;
                }
            }
            return NONE;
        }

        private int leastFree(boolean ofShareOnly) {
            for (int a = 0; a < ADDRESSES; a++) {
                if (records[a].kind == FREE && (!ofShareOnly || a % SERVERS == number)) {
                    return a;
                }
            }
            return NONE;
        }

        private int leastLongPast(int now) {
            for (int a = 0; a < ADDRESSES; a++) {
                if (records[a].isLongPast(now)) {
                    return a;
                }
            }
            return NONE;
        }
    }

    private static final class Client {
        private int address;
        private int until;
        private int ticket;
        private boolean waiting;
        private int releasedAt;

        private Client() {
            address = NONE;
            // Long enough ago for the first ask to be allowed at time 0.
            releasedAt = -PAUSE_AFTER_RELEASE;
        }

        private boolean pauses(int now) {
            return now - releasedAt < PAUSE_AFTER_RELEASE;
        }

        private void holdNone() {
            address = NONE;
            until = 0;
        }

        private void dropExpired(int now) {
            if (address != NONE && until < now) {
                holdNone();
            }
        }

        private boolean waitsFor(Message answer) {
            return waiting && answer.ticket == ticket;
        }

        private void takeLease(Message lease, int now) {
            if (!waitsFor(lease)) {
                return;
            }
            waiting = false;
            if (lease.until >= now) {
                address = lease.address;
                until = lease.until;
            }
        }

        private void takeDenial(Message denial) {
            if (waitsFor(denial)) {
                waiting = false;
            }
        }

        private int look(int what) {
            switch (what) {
                case 0:
                    return address;
                case 1:
                    return until;
                case 2:
                    return ticket;
                case 3:
                    return waiting ? 1 : 0;
                default:
                    return NO_SUCH_THING;
            }
        }
    }

    private static final class Message {
        private int kind;
        private int from;
        private int to;
        private int sentAt;
        private int ticket;
        private int address;
        private int recordKind;
        private int client;
        private int until;
        private int age;
        private int serial;
        private int potential;
        private int session;
        private int set;
        private boolean vanishes;

        private boolean isBetweenServers() {
            return kind == UPDATE || kind == ACKNOWLEDGEMENT || kind == DEMAND;
        }

        private boolean goesToServer() {
            return kind != LEASE && kind != DENIAL;
        }

        private int look(int what) {
            switch (what) {
                case 0:
                    return kind;
                case 1:
                    return from;
                case 2:
                    return to;
                case 3:
                    return subject();
                case 4:
                    return detail();
                case 5:
                    return sentAt;
                default:
                    return NO_SUCH_THING;
            }
        }

        private int subject() {
            switch (kind) {
                case RELEASE:
                case UPDATE:
                case ACKNOWLEDGEMENT:
                    return address;
                case DEMAND:
                    return set;
                default:
                    return ticket;
            }
        }

        private int detail() {
            switch (kind) {
                case LEASE:
                    return address;
                case UPDATE:
                    return recordKind;
                case ACKNOWLEDGEMENT:
                    return serial;
                default:
                    return 0;
            }
        }
    }

    /** The messages under way: rows made once and used again, the first {@code count} of them live. */
    private static final class MessageList {
        private final Message[] rows;
        private int count;
        /** The row taken last: kept apart, so that an answer to it does not write over it. */
        private Message taken;

        private MessageList() {
            rows = new Message[LIST_LIMIT];
            for (int i = 0; i < LIST_LIMIT; i++) {
                rows[i] = new Message();
            }
            taken = new Message();
        }

        private boolean has(int k) {
            return k >= 0 && k < count;
        }

        /** The new last message, its own parts to be filled in by the caller; null if there is no room. */
        private Message append(int kind, int from, int to, int now) {
            if (count >= LIST_LIMIT) {
                return null;
            }
            Message message = rows[count];
            count++;
            message.kind = kind;
            message.from = from;
            message.to = to;
            message.sentAt = now;
            return message;
        }

        /** The caller has looked whether there is a message k. */
        private Message take(int k) {
            Message message = rows[k];
            for (int i = k + 1; i < count; i++) {
                rows[i - 1] = rows[i];
            }
            count--;
            rows[count] = taken;
            taken = message;
            return message;
        }

        private void removeSentBefore(int earliest) {
            for (int i = 0; i < count; i++) {
                rows[i].vanishes = rows[i].sentAt < earliest;
            }
            removeVanishing();
        }

        private void removeBetweenServers() {
            for (int i = 0; i < count; i++) {
                rows[i].vanishes = rows[i].isBetweenServers();
            }
            removeVanishing();
        }

        private void removeVanishing() {
            int kept = 0;
            for (int i = 0; i < count; i++) {
                if (!rows[i].vanishes) {
                    swap(kept, i);
                    kept++;
                }
            }
            count = kept;
        }

        private void swap(int i, int j) {
            Message row = rows[i];
            rows[i] = rows[j];
            rows[j] = row;
        }
    }
}
