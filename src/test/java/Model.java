import java.util.ArrayList;
import java.util.List;
import java.util.Map;
import java.util.TreeMap;

/**
 * The document told a second time, sentence by sentence and without care for space: new objects for
 * every message, and a count of how often each clause was come to.
 */
final class Model {
    enum State { STOPPED, NORMAL, INTERRUPTED, ALONE, RECOVERING }

    enum Kind { FREE, LENT, OVER }

    static final class Rec {
        Kind kind = Kind.FREE;
        int client = -1;
        int until;
        int acked;
        int known;
        int age;
        int serial;
        boolean dirty;
    }

    static final class Srv {
        State state = State.NORMAL;
        int since;
        int session;
        int partnerSession;
        final boolean[] got = new boolean[6];
        final Rec[] recs = {new Rec(), new Rec(), new Rec(), new Rec(), new Rec(), new Rec()};

        boolean serves() {
            return state == State.NORMAL || state == State.INTERRUPTED || state == State.ALONE;
        }

        boolean gotAll() {
            return got[0] && got[1] && got[2] && got[3] && got[4] && got[5];
        }
    }

    static final class Cli {
        Integer holds;
        int until;
        int ticket;
        boolean waiting;
        Integer released;
    }

    record Msg(int kind, int from, int to, int sent, int ticket, int address, Kind recKind, int client,
            int until, int age, int serial, int potential, int session, List<Integer> set) {
        boolean betweenServers() {
            return kind >= 4;
        }

        boolean toServer() {
            return kind == 0 || kind >= 3;
        }
    }

    final Map<String, Integer> clauses = new TreeMap<>();
    int time;
    boolean linkUp = true;
    final Srv[] servers = {new Srv(), new Srv()};
    final Cli[] clients = {new Cli(), new Cli(), new Cli(), new Cli(), new Cli()};
    final List<Msg> list = new ArrayList<>();

    private void come(String clause) {
        clauses.merge(clause, 1, Integer::sum);
    }

    private boolean contact() {
        return servers[0].state != State.STOPPED && servers[1].state != State.STOPPED && linkUp;
    }

    private boolean runs(Rec r) {
        return r.kind == Kind.LENT && !(r.until < time);
    }

    private void changed(Rec r) {
        r.serial += 1;
        r.dirty = true;
    }

    private void free(Rec r) {
        r.kind = Kind.FREE;
        r.client = -1;
        r.until = r.acked = r.known = 0;
    }

    private void send(Msg m) {
        if (list.size() == 24) {
            come("send: lost, 24 there, kind " + m.kind);
        } else {
            list.add(m);
        }
    }

    int tick() {
        time += 1;
        if (list.removeIf(m -> time - m.sent > 3)) {
            come("tick: message too old");
        }
        for (Cli c : clients) {
            if (c.holds != null && c.until < time) {
                come("tick: client's lease ends");
                c.holds = null;
                c.until = 0;
            }
        }
        for (int s = 0; s <= 1; s++) {
            Srv v = servers[s];
            if (v.state == State.STOPPED) {
                come("tick: stopped");
                continue;
            }
            tickState(v);
            if (v.serves()) {
                for (Rec r : v.recs) {
                    if (r.kind == Kind.LENT && r.until < time) {
                        come("tick: over in " + v.state);
                        r.kind = Kind.OVER;
                        changed(r);
                    }
                }
            }
            if (contact()) {
                tickSend(s, v);
            }
        }
        return time;
    }

    private void tickState(Srv v) {
        if (v.state == State.NORMAL) {
            if (!contact()) {
                come("tick: normal to interrupted");
                v.state = State.INTERRUPTED;
            }
        } else if (v.state == State.INTERRUPTED) {
            if (contact()) {
                come("tick: interrupted to normal");
                v.state = State.NORMAL;
            }
        } else if (v.state == State.RECOVERING) {
            if (!contact()) {
                come("tick: recovering without contact" + (v.gotAll() && time > v.since + 6 ? ", else ready" : ""));
            } else if (!v.gotAll()) {
                come("tick: recovering, not got all" + (time > v.since + 6 ? ", late" : ""));
            } else if (time <= v.since + 6) {
                come("tick: recovering, too early" + (time == v.since + 6 ? " by one" : ""));
            } else {
                come("tick: recovering to normal" + (time == v.since + 7 ? " at once" : ""));
                v.state = State.NORMAL;
            }
        } else {
            come("tick: alone, contact " + contact());
        }
    }

    private void tickSend(int s, Srv v) {
        if (v.state == State.NORMAL) {
            int count = 0;
            for (int a = 0; a < 6; a++) {
                Rec r = v.recs[a];
                if (r.dirty && count < 2) {
                    count++;
                    come("tick: update " + r.kind);
                    send(new Msg(4, s, 1 - s, time, 0, a, r.kind, r.client, r.until, r.age, r.serial,
                            time + 20, v.partnerSession, null));
                } else if (r.dirty) {
                    come("tick: third dirty one");
                }
            }
        } else if (v.state == State.RECOVERING && !v.gotAll()) {
            List<Integer> lacking = new ArrayList<>();
            for (int a = 0; a < 6; a++) {
                if (!v.got[a]) {
                    lacking.add(a);
                }
            }
            come("tick: demand");
            send(new Msg(6, s, 1 - s, time, 0, 0, null, 0, 0, 0, 0, 0, v.session, lacking));
        }
    }

    boolean ask(int client, int server) {
        if (client < 0 || client > 4 || server < 0 || server > 1) {
            return false;
        }
        Cli c = clients[client];
        if (c.released != null && time - c.released < 4) {
            come("ask: pause");
            return false;
        }
        c.ticket += 1;
        c.waiting = true;
        send(new Msg(0, client, server, time, c.ticket, 0, null, 0, 0, 0, 0, 0, 0, null));
        return true;
    }

    boolean release(int client, int server) {
        if (client < 0 || client > 4 || server < 0 || server > 1 || clients[client].holds == null) {
            return false;
        }
        Cli c = clients[client];
        int held = c.holds;
        come("release" + (c.waiting ? ", waiting" : ""));
        c.holds = null;
        c.until = 0;
        c.waiting = false;
        c.released = time;
        send(new Msg(3, client, server, time, 0, held, null, 0, 0, 0, 0, 0, 0, null));
        return true;
    }

    boolean deliver(int k) {
        if (k < 0 || k >= list.size()) {
            return false;
        }
        Msg m = list.remove(k);
        if (m.toServer() && servers[m.to].state == State.STOPPED) {
            come("deliver: to a stopped server, kind " + m.kind);
            return false;
        }
        if (m.betweenServers() && !contact()) {
            come("deliver: no contact, kind " + m.kind);
            return false;
        }
        switch (m.kind) {
            case 0 -> arriveAsk(m);
            case 1 -> arriveLease(m);
            case 2 -> arriveDenial(m);
            case 3 -> arriveRelease(m);
            case 4 -> arriveUpdate(m);
            case 5 -> arriveAcknowledgement(m);
            default -> arriveDemand(m);
        }
        return true;
    }

    private Integer chosen(int s, int client) {
        Srv v = servers[s];
        for (int a = 0; a < 6; a++) {
            if (v.recs[a].kind == Kind.LENT && v.recs[a].client == client) {
                come("ask: lent to it, " + v.state);
                return a;
            }
        }
        for (int a = 0; a < 6; a++) {
            if (v.recs[a].kind == Kind.FREE && a % 2 == s) {
                come("ask: free of share, " + v.state);
                return a;
            }
        }
        if (v.state != State.ALONE) {
            come("ask: none, " + v.state);
            return null;
        }
        if (!(time > v.since + 6)) {
            come("ask: none, alone too short" + (time == v.since + 6 ? " by one" : ""));
            return null;
        }
        for (int a = 0; a < 6; a++) {
            if (v.recs[a].kind == Kind.FREE) {
                come("ask: free of the other share" + (time == v.since + 7 ? " at once" : ""));
                return a;
            }
        }
        for (int a = 0; a < 6; a++) {
            Rec r = v.recs[a];
            if (r.until + 6 < time && r.known + 6 < time) {
                come("ask: long past, " + (r.until >= r.known ? "until" : "known") + " later"
                        + (Math.max(r.until, r.known) + 7 == time ? ", at once" : ""));
                return a;
            }
            come("ask: " + (r.until + 6 < time ? "known" : "until") + " not long past");
        }
        come("ask: none, alone long");
        return null;
    }

    private void arriveAsk(Msg m) {
        Srv v = servers[m.to];
        if (!v.serves()) {
            come("ask: does not serve");
            return;
        }
        Integer a = chosen(m.to, m.from);
        if (a == null) {
            send(new Msg(2, m.to, m.from, time, m.ticket, 0, null, 0, 0, 0, 0, 0, 0, null));
            return;
        }
        Rec r = v.recs[a];
        if (!(r.kind == Kind.LENT && r.client == m.from)) {
            r.age += 1;
            r.until = r.acked = r.known = 0;
        }
        int reach;
        if (v.state == State.ALONE) {
            reach = time + 20;
        } else {
            int greater = time > r.acked ? time : r.acked;
            come("ask: M is " + (time > r.acked ? "time" : "acked") + ", "
                    + (time + 20 < greater + 6 ? "full" : "lead"));
            reach = time + 20 < greater + 6 ? time + 20 : greater + 6;
        }
        come("ask: until " + (reach < r.until ? "stays" : "grows") + (v.state == State.ALONE ? ", alone" : ""));
        if (r.until < reach) {
            r.until = reach;
        }
        r.kind = Kind.LENT;
        r.client = m.from;
        changed(r);
        send(new Msg(1, m.to, m.from, time, m.ticket, a, null, 0, r.until, 0, 0, 0, 0, null));
    }

    private void arriveLease(Msg m) {
        Cli c = clients[m.to];
        if (!c.waiting || c.ticket != m.ticket) {
            come("lease: " + (c.waiting ? "other ticket" : "not waiting"));
            return;
        }
        c.waiting = false;
        if (m.until < time) {
            come("lease: too late");
        } else {
            come("lease: taken" + (c.holds == null ? "" : c.holds == m.address ? ", same" : ", another"));
            c.holds = m.address;
            c.until = m.until;
        }
    }

    private void arriveDenial(Msg m) {
        Cli c = clients[m.to];
        if (c.waiting && c.ticket == m.ticket) {
            come("denial: taken" + (c.holds == null ? "" : ", holding"));
            c.waiting = false;
        } else {
            come("denial: " + (c.waiting ? "other ticket" : "not waiting"));
        }
    }

    private void arriveRelease(Msg m) {
        Srv v = servers[m.to];
        Rec r = v.recs[m.address];
        if (!v.serves()) {
            come("release: does not serve");
        } else if (r.kind == Kind.LENT && r.client == m.from) {
            come("release: over in " + v.state);
            r.kind = Kind.OVER;
            changed(r);
        } else {
            come("release: " + (r.kind == Kind.LENT ? "lent to another" : "not lent"));
        }
    }

    private void acknowledge(Msg m) {
        send(new Msg(5, m.to, m.from, time, 0, m.address, null, 0, 0, m.age, m.serial, m.potential, 0, null));
    }

    private void becomesFree(Rec r, Msg m) {
        come("update: frees a " + (r.dirty ? "dirty " : "") + "record");
        free(r);
        r.age = m.age;
        r.dirty = false;
    }

    private void becomesLent(Rec r, Msg m) {
        come("update: lends a " + (r.dirty ? "dirty " : "") + "record");
        r.kind = Kind.LENT;
        r.client = m.client;
        r.until = m.until;
        r.known = m.potential;
        r.acked = 0;
        r.age = m.age;
        r.dirty = false;
    }

    private void arriveUpdate(Msg m) {
        Srv v = servers[m.to];
        Rec r = v.recs[m.address];
        if (v.state == State.RECOVERING && m.session != v.session) {
            come("update: other session" + (v.got[m.address] ? ", got" : ""));
            return;
        }
        if (v.state == State.RECOVERING && !v.got[m.address]) {
            firstUpdate(v, r, m);
            return;
        }
        String where = v.state == State.RECOVERING ? "recovering, " : "";
        if (m.age < r.age) {
            come("update: " + where + "lesser age " + m.recKind);
            return;
        }
        switch (m.recKind) {
            case LENT -> lentUpdate(where, r, m);
            case OVER -> {
                if (runs(r)) {
                    come("update: " + where + "over, runs, " + (m.age > r.age ? "greater" : "same") + " age");
                } else {
                    come("update: " + where + "over, " + r.kind + ", " + (m.age > r.age ? "greater" : "same") + " age");
                    becomesFree(r, m);
                    acknowledge(m);
                }
            }
            default -> {
                if (r.kind != Kind.FREE) {
                    come("update: " + where + "free, not free");
                } else {
                    come("update: " + where + "free, free, " + (m.age > r.age ? "greater" : "same") + " age");
                    becomesFree(r, m);
                    acknowledge(m);
                }
            }
        }
    }

    private void firstUpdate(Srv v, Rec r, Msg m) {
        boolean ran = runs(r);
        String ages = m.age < r.age ? ", lesser age" : m.age > r.age ? ", greater age" : ", same age";
        if (ran && !(m.recKind == Kind.LENT && m.client == r.client && m.age == r.age)) {
            come("first: refused, runs, " + m.recKind + ages + (m.client == r.client ? "" : ", other client"));
            return;
        }
        if (m.recKind != Kind.LENT) {
            come("first: free by " + m.recKind + ages);
            becomesFree(r, m);
        } else {
            int was = r.until;
            come("first: lent" + (ran ? ", ran, " + (was > m.until ? "later" : "not later") : ages));
            becomesLent(r, m);
            if (ran && r.until < was) {
                r.until = was;
            }
        }
        v.got[m.address] = true;
        acknowledge(m);
    }

    private void lentUpdate(String where, Rec r, Msg m) {
        if (m.until < time) {
            come("update: " + where + "lent, too late");
        } else if (m.age > r.age) {
            if (runs(r)) {
                come("update: " + where + "lent, greater age, runs");
            } else {
                come("update: " + where + "lent, greater age, " + r.kind);
                becomesLent(r, m);
                acknowledge(m);
            }
        } else if (r.kind == Kind.LENT) {
            come("update: " + where + "lent, same age, until " + (r.until < m.until ? "grows" : "stays")
                    + ", known " + (r.known < m.potential ? "grows" : "stays"));
            if (r.client != m.client) {
                come("update: " + where + "lent, same age, other client");
            }
            r.until = Math.max(r.until, m.until);
            r.known = Math.max(r.known, m.potential);
            acknowledge(m);
        } else {
            come("update: " + where + "lent, same age, " + r.kind);
        }
    }

    private void arriveAcknowledgement(Msg m) {
        Srv v = servers[m.to];
        Rec r = v.recs[m.address];
        if (!v.serves()) {
            come("acknowledgement: does not serve");
        } else if (!r.dirty) {
            come("acknowledgement: not dirty");
        } else if (r.age != m.age) {
            come("acknowledgement: other age" + (r.serial == m.serial ? ", same serial" : ""));
        } else if (r.serial != m.serial) {
            come("acknowledgement: other serial");
        } else {
            come("acknowledgement: of " + r.kind
                    + (r.kind == Kind.LENT ? ", acked " + (r.acked < m.potential ? "grows" : "stays") : ""));
            r.dirty = false;
            if (r.kind == Kind.LENT) {
                r.acked = Math.max(r.acked, m.potential);
            } else if (r.kind == Kind.OVER) {
                free(r);
            }
        }
    }

    private void arriveDemand(Msg m) {
        Srv v = servers[m.to];
        come("demand: " + v.state);
        if (v.serves()) {
            v.partnerSession = m.session;
            for (int a : m.set) {
                v.recs[a].dirty = true;
            }
            if (v.state == State.ALONE) {
                v.state = State.NORMAL;
            }
        }
    }

    boolean lose(int k) {
        if (k < 0 || k >= list.size()) {
            return false;
        }
        list.remove(k);
        return true;
    }

    boolean stop(int server) {
        if (server != 0 && server != 1) {
            return false;
        }
        for (Srv v : servers) {
            if (v.state == State.STOPPED || v.state == State.RECOVERING) {
                come("stop: one is " + v.state);
                return false;
            }
        }
        come("stop: " + servers[server].state);
        servers[server].state = State.STOPPED;
        if (list.removeIf(Msg::betweenServers)) {
            come("stop: messages vanish");
        }
        return true;
    }

    boolean start(int server) {
        if (server != 0 && server != 1) {
            return false;
        }
        Srv v = servers[server];
        if (v.state != State.STOPPED || !linkUp) {
            come("start: refused, " + v.state + ", link " + linkUp);
            return false;
        }
        come("start");
        v.state = State.RECOVERING;
        v.since = time;
        v.session += 1;
        java.util.Arrays.fill(v.got, false);
        return true;
    }

    boolean alone(int server) {
        if (server != 0 && server != 1) {
            return false;
        }
        Srv v = servers[server];
        boolean fit = v.state == State.NORMAL || v.state == State.INTERRUPTED;
        if (!fit || servers[1 - server].state != State.STOPPED) {
            come("alone: refused, " + v.state);
            return false;
        }
        come("alone: " + v.state);
        v.state = State.ALONE;
        v.since = time;
        return true;
    }

    boolean link(boolean up) {
        if (linkUp == up) {
            return false;
        }
        linkUp = up;
        return true;
    }

    int state(int server) {
        return server == 0 || server == 1 ? servers[server].state.ordinal() : -1;
    }

    int entry(int server, int address, int what) {
        if (server < 0 || server > 1 || address < 0 || address > 5 || what < 0 || what > 7) {
            return -2;
        }
        Rec r = servers[server].recs[address];
        int[] all = {r.kind.ordinal(), r.client, r.until, r.acked, r.known, r.age, r.serial, r.dirty ? 1 : 0};
        return all[what];
    }

    int client(int client, int what) {
        if (client < 0 || client > 4 || what < 0 || what > 3) {
            return -2;
        }
        Cli c = clients[client];
        int[] all = {c.holds == null ? -1 : c.holds, c.until, c.ticket, c.waiting ? 1 : 0};
        return all[what];
    }

    int messages() {
        return list.size();
    }

    int message(int k, int what) {
        if (k < 0 || k >= list.size() || what < 0 || what > 5) {
            return -2;
        }
        Msg m = list.get(k);
        int subject = m.ticket;
        int detail = 0;
        if (m.kind == 1) {
            detail = m.address;
        } else if (m.kind == 3) {
            subject = m.address;
        } else if (m.kind == 4) {
            subject = m.address;
            detail = m.recKind.ordinal();
        } else if (m.kind == 5) {
            subject = m.address;
            detail = m.serial;
        } else if (m.kind == 6) {
            subject = 0;
            for (int a : m.set) {
                subject += 1 << a;
            }
        }
        int[] all = {m.kind, m.from, m.to, subject, detail, m.sent};
        return all[what];
    }
}
