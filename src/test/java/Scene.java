/** A pair under test, with short names for the runs of calls that tests make often. */
final class Scene {
    static final int ASK = 0;
    static final int LEASE = 1;
    static final int DENIAL = 2;
    static final int RELEASE = 3;
    static final int UPDATE = 4;
    static final int ACKNOWLEDGEMENT = 5;
    static final int DEMAND = 6;

    static final int KIND = 0;
    static final int CLIENT = 1;
    static final int UNTIL = 2;
    static final int ACKED = 3;
    static final int KNOWN = 4;
    static final int AGE = 5;
    static final int SERIAL = 6;
    static final int DIRTY = 7;

    final Counted pair;

    Scene() {
        this(new Counted());
    }

    private Scene(Counted pair) {
        this.pair = pair;
    }

    /** The least number of a message of this kind to this receiver, or -1. */
    int find(int kind, int to) {
        int count = pair.messages();
        for (int k = 0; k < count; k++) {
            if (pair.message(k, 0) == kind && pair.message(k, 2) == to) {
                return k;
            }
        }
        return -1;
    }

    /** The same with this subject: the address of an UPDATE or an ACKNOWLEDGEMENT. */
    int find(int kind, int to, int subject) {
        int count = pair.messages();
        for (int k = 0; k < count; k++) {
            if (pair.message(k, 0) == kind && pair.message(k, 2) == to && pair.message(k, 3) == subject) {
                return k;
            }
        }
        return -1;
    }

    /** Delivers the first message of this kind to this receiver; false if there is none. */
    boolean pass(int kind, int to) {
        return pair.deliver(find(kind, to));
    }

    boolean pass(int kind, int to, int subject) {
        return pair.deliver(find(kind, to, subject));
    }

    boolean drop(int kind, int to) {
        return pair.lose(find(kind, to));
    }

    boolean drop(int kind, int to, int subject) {
        return pair.lose(find(kind, to, subject));
    }

    /** Asks of client 4 until there are so many messages. */
    void fillUpTo(int count) {
        for (int i = pair.messages(); i < count; i++) {
            pair.ask(4, 1);
        }
    }

    /** A client asks, and the ask and its answer arrive: the address that the client holds then. */
    int lend(int client, int server) {
        pair.ask(client, server);
        pair.deliver(pair.messages() - 1);
        pair.deliver(pair.messages() - 1);
        return pair.client(client, 0);
    }

    /** A client releases what it holds, and the server hears of it. */
    void giveBack(int client, int server) {
        pair.release(client, server);
        pair.deliver(pair.messages() - 1);
    }

    void ticks(int count) {
        for (int i = 0; i < count; i++) {
            pair.tick();
        }
    }

    /** Every message arrives, in order, with those that they bring about. */
    void settle() {
        for (int count = pair.messages(); count > 0; count = pair.messages()) {
            for (int i = 0; i < count; i++) {
                pair.deliver(0);
            }
        }
    }

    void loseAll() {
        for (int count = pair.messages(); count > 0; count--) {
            pair.lose(0);
        }
    }

    /** Only messages of this kind are left. */
    void loseAllBut(int kind) {
        for (int k = pair.messages() - 1; k >= 0; k--) {
            if (pair.message(k, 0) != kind) {
                pair.lose(k);
            }
        }
    }

    /** A tick whose messages are lost. */
    void deafTicks(int count) {
        for (int i = 0; i < count; i++) {
            pair.tick();
            loseAll();
        }
    }

    /** A tick whose messages all arrive. */
    void goodTicks(int count) {
        for (int i = 0; i < count; i++) {
            pair.tick();
            settle();
        }
    }

    /** Kind, client, UNTIL, ACKED, KNOWN, AGE, SERIAL and dirty. */
    String record(int server, int address) {
        StringBuilder text = new StringBuilder();
        for (int what = 0; what < 8; what++) {
            text.append(what == 0 ? "" : " ").append(pair.entry(server, address, what));
        }
        return text.toString();
    }

    /** Kind, sender, receiver, subject, detail and time of sending. */
    String message(int k) {
        StringBuilder text = new StringBuilder();
        for (int what = 0; what < 6; what++) {
            text.append(what == 0 ? "" : " ").append(pair.message(k, what));
        }
        return text.toString();
    }

    /** Address, until, ticket and waiting. */
    String client(int number) {
        StringBuilder text = new StringBuilder();
        for (int what = 0; what < 4; what++) {
            text.append(what == 0 ? "" : " ").append(pair.client(number, what));
        }
        return text.toString();
    }

    /** All that can be seen, for 'changing nothing'. */
    String all() {
        return new Scene(pair.again()).seen();
    }

    /** The same by looking at this very object, which uses its calls up. */
    String seen() {
        StringBuilder text = new StringBuilder();
        for (int server = 0; server < 2; server++) {
            text.append("server ").append(pair.state(server));
            for (int address = 0; address < 6; address++) {
                text.append(" | ").append(record(server, address));
            }
            text.append('\n');
        }
        for (int number = 0; number < 5; number++) {
            text.append("client ").append(client(number)).append('\n');
        }
        int count = pair.messages();
        for (int k = 0; k < count; k++) {
            text.append("message ").append(message(k)).append('\n');
        }
        return text.toString();
    }
}
