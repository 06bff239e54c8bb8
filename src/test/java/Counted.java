import java.util.ArrayList;
import java.util.List;
import java.util.function.Consumer;

/**
 * A LeasePair that counts its calls, since what it answers after 512 of them is free, and that can be made again by
 * the same calls, so that it can be looked at whole without using its calls up.
 */
final class Counted {
    static final int LIMIT = 512;

    private final LeasePair pair = new LeasePair();
    private final List<Consumer<LeasePair>> changes = new ArrayList<>();
    private int calls = 0;

    /** A new object that has had the same calls, but for those that only look. */
    Counted again() {
        Counted copy = new Counted();
        for (Consumer<LeasePair> change : changes) {
            copy.count();
            copy.changes.add(change);
            change.accept(copy.pair);
        }
        return copy;
    }

    int left() {
        return LIMIT - calls;
    }

    private LeasePair count() {
        if (calls == LIMIT) {
            throw new IllegalStateException("a test makes more than 512 calls on one object");
        }
        calls++;
        return pair;
    }

    private LeasePair change(Consumer<LeasePair> call) {
        changes.add(call);
        return count();
    }

    int tick() {
        return change(LeasePair::tick).tick();
    }

    boolean ask(int client, int server) {
        return change(x -> x.ask(client, server)).ask(client, server);
    }

    boolean release(int client, int server) {
        return change(x -> x.release(client, server)).release(client, server);
    }

    boolean deliver(int k) {
        return change(x -> x.deliver(k)).deliver(k);
    }

    boolean lose(int k) {
        return change(x -> x.lose(k)).lose(k);
    }

    boolean stop(int server) {
        return change(x -> x.stop(server)).stop(server);
    }

    boolean start(int server) {
        return change(x -> x.start(server)).start(server);
    }

    boolean alone(int server) {
        return change(x -> x.alone(server)).alone(server);
    }

    boolean link(boolean up) {
        return change(x -> x.link(up)).link(up);
    }

    int state(int server) {
        return count().state(server);
    }

    int entry(int server, int address, int what) {
        return count().entry(server, address, what);
    }

    int client(int client, int what) {
        return count().client(client, what);
    }

    int messages() {
        return count().messages();
    }

    int message(int k, int what) {
        return count().message(k, what);
    }
}
