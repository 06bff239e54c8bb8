import java.util.ArrayList;
import java.util.List;

/** The program and the model side by side: each call is made on both, and answers whether both answered the same. */
final class Twin {
    final Counted pair = new Counted();
    final Model model = new Model();
    final List<String> told = new ArrayList<>();

    boolean tick() {
        return compare("tick()", pair.tick(), model.tick());
    }

    boolean ask(int client, int server) {
        return compare("ask(" + client + ", " + server + ")", pair.ask(client, server), model.ask(client, server));
    }

    boolean release(int client, int server) {
        return compare("release(" + client + ", " + server + ")", pair.release(client, server), model.release(client, server));
    }

    boolean deliver(int k) {
        return compare("deliver(" + k + ")", pair.deliver(k), model.deliver(k));
    }

    boolean lose(int k) {
        return compare("lose(" + k + ")", pair.lose(k), model.lose(k));
    }

    boolean stop(int server) {
        return compare("stop(" + server + ")", pair.stop(server), model.stop(server));
    }

    boolean start(int server) {
        return compare("start(" + server + ")", pair.start(server), model.start(server));
    }

    boolean alone(int server) {
        return compare("alone(" + server + ")", pair.alone(server), model.alone(server));
    }

    boolean link(boolean up) {
        return compare("link(" + up + ")", pair.link(up), model.link(up));
    }

    private boolean compare(String call, Object got, Object want) {
        boolean same = got.equals(want);
        told.add(call + " " + got + (same ? "" : ", due is " + want));
        return same;
    }

    /** By the model, whose clients are compared with the program's. */
    boolean twoHoldOne() {
        boolean[] held = new boolean[6];
        for (int client = 0; client < 5; client++) {
            int address = model.client(client, 0);
            if (address >= 0 && held[address]) {
                return true;
            }
            if (address >= 0) {
                held[address] = true;
            }
        }
        return false;
    }

    /** What a new object shows other than the model after the same calls, as far as its 512 calls reach. */
    String difference() {
        return difference(0);
    }

    /** Begins with this part, 0 to 3: after many calls there are not enough left for all of them. */
    String difference(int firstPart) {
        Counted copy = pair.again();
        for (int i = 0; i < 4; i++) {
            String found = differenceOfPart((firstPart + i) % 4, copy);
            if (!found.isEmpty()) {
                return found;
            }
        }
        return "";
    }

    private String differenceOfPart(int part, Counted copy) {
        switch (part) {
            case 0:
            case 1:
                return copy.left() < 49 ? "" : differenceOfServer(part, copy);
            case 2:
                return copy.left() < 20 ? "" : differenceOfClients(copy);
            default:
                return copy.left() < 1 + 6 * model.messages() ? "" : differenceOfMessages(copy);
        }
    }

    private String differenceOfServer(int server, Counted copy) {
        int state = copy.state(server);
        if (state != model.state(server)) {
            return "state(" + server + ") answered " + state + ", due is " + model.state(server);
        }
        for (int address = 0; address < 6; address++) {
            for (int what = 0; what < 8; what++) {
                int got = copy.entry(server, address, what);
                int want = model.entry(server, address, what);
                if (got != want) {
                    return "entry(" + server + ", " + address + ", " + what + ") answered " + got + ", due is " + want;
                }
            }
        }
        return "";
    }

    private String differenceOfClients(Counted copy) {
        for (int client = 0; client < 5; client++) {
            for (int what = 0; what < 4; what++) {
                int got = copy.client(client, what);
                int want = model.client(client, what);
                if (got != want) {
                    return "client(" + client + ", " + what + ") answered " + got + ", due is " + want;
                }
            }
        }
        return "";
    }

    private String differenceOfMessages(Counted copy) {
        int count = copy.messages();
        if (count != model.messages()) {
            return "messages() answered " + count + ", due is " + model.messages();
        }
        for (int k = 0; k < count; k++) {
            for (int what = 0; what < 6; what++) {
                int got = copy.message(k, what);
                int want = model.message(k, what);
                if (got != want) {
                    return "message(" + k + ", " + what + ") answered " + got + ", due is " + want;
                }
            }
        }
        return "";
    }
}
