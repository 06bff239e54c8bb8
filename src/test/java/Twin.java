import java.util.ArrayList;
import java.util.List;

/** The program and the model side by side: each call is made on both, and answers whether both answered the same. */
final class Twin {
    final LeasePair pair = new LeasePair();
    final Model model = new Model();
    final List<String> told = new ArrayList<>();

    boolean tick() {
        return compare("tick()", pair.tick(), model.tick());
    }

    boolean ask(int client, int server) {
        return compare("ask(" + client + ", " + server + ")", pair.ask(client, server), model.ask(client, server));
    }

    boolean release(int client, int server) {
        return compare("release(" + client + ", " + server + ")", pair.release(client, server), model.release(client, server));
    }

    boolean deliver(int k) {
        return compare("deliver(" + k + ")", pair.deliver(k), model.deliver(k));
    }

    boolean lose(int k) {
        return compare("lose(" + k + ")", pair.lose(k), model.lose(k));
    }

    boolean stop(int server) {
        return compare("stop(" + server + ")", pair.stop(server), model.stop(server));
    }

    boolean start(int server) {
        return compare("start(" + server + ")", pair.start(server), model.start(server));
    }

    boolean alone(int server) {
        return compare("alone(" + server + ")", pair.alone(server), model.alone(server));
    }

    boolean link(boolean up) {
        return compare("link(" + up + ")", pair.link(up), model.link(up));
    }

    private boolean compare(String call, Object got, Object want) {
        boolean same = got.equals(want);
        told.add(call + " " + got + (same ? "" : ", due is " + want));
        return same;
    }

    boolean twoHoldOne() {
        boolean[] held = new boolean[6];
        for (int client = 0; client < 5; client++) {
            int address = pair.client(client, 0);
            if (address >= 0 && held[address]) {
                return true;
            }
            if (address >= 0) {
                held[address] = true;
            }
        }
        return false;
    }

    String difference() {
        for (int server = 0; server < 2; server++) {
            if (pair.state(server) != model.state(server)) {
                return "state(" + server + ") answered " + pair.state(server) + ", due is " + model.state(server);
            }
            for (int address = 0; address < 6; address++) {
                for (int what = 0; what < 8; what++) {
                    int got = pair.entry(server, address, what);
                    int want = model.entry(server, address, what);
                    if (got != want) {
                        return "entry(" + server + ", " + address + ", " + what + ") answered " + got + ", due is " + want;
                    }
                }
            }
        }
        for (int client = 0; client < 5; client++) {
            for (int what = 0; what < 4; what++) {
                int got = pair.client(client, what);
                int want = model.client(client, what);
                if (got != want) {
                    return "client(" + client + ", " + what + ") answered " + got + ", due is " + want;
                }
            }
        }
        return differenceOfMessages();
    }

    private String differenceOfMessages() {
        if (pair.messages() != model.messages()) {
            return "messages() answered " + pair.messages() + ", due is " + model.messages();
        }
        for (int k = 0; k < pair.messages(); k++) {
            for (int what = 0; what < 6; what++) {
                int got = pair.message(k, what);
                int want = model.message(k, what);
                if (got != want) {
                    return "message(" + k + ", " + what + ") answered " + got + ", due is " + want;
                }
            }
        }
        return "";
    }
}
