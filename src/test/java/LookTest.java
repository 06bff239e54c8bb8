/** Promises 11 to 15: what can be looked at, and that looking changes nothing. */
final class LookTest {
    private static final int[] EDGES = {Integer.MIN_VALUE, -2, -1, 8, 24, 31, 32, 64, Integer.MAX_VALUE};

    public static void main(String[] args) {
        states();
        entries();
        clients();
        messages();
        Check.end();
    }

    private static void states() {
        Scene scene = new Scene();
        Check.due("normal", scene.pair.state(0), 1);
        scene.pair.stop(0);
        Check.due("stopped", scene.pair.state(0), 0);
        scene.ticks(1);
        Check.due("interrupted", scene.pair.state(1), 2);
        scene.pair.alone(1);
        Check.due("alone", scene.pair.state(1), 3);
        scene.pair.start(0);
        Check.due("recovering", scene.pair.state(0), 4);
        Check.due("state(2)", scene.pair.state(2), -1);
        for (int server : EDGES) {
            Check.due("state(" + server + ")", scene.pair.state(server), -1);
        }
    }

    private static void entries() {
        Scene scene = new Scene();
        scene.lend(3, 1);
        scene.goodTicks(1);
        scene.lend(3, 1);
        scene.lend(3, 0);
        scene.goodTicks(1);
        int[] due = {1, 3, 21, 22, 22, 1, 2, 0};
        for (int what = 0; what < 8; what++) {
            Check.due("entry(1, 1, " + what + ")", scene.pair.entry(1, 1, what), due[what]);
        }
        String before = scene.all();
        for (int edge : EDGES) {
            Check.due("entry(" + edge + ", 0, 0)", scene.pair.entry(edge, 0, 0), -2);
            Check.due("entry(0, " + edge + ", 0)", scene.pair.entry(0, edge, 0), -2);
            Check.due("entry(0, 0, " + edge + ")", scene.pair.entry(0, 0, edge), -2);
        }
        Check.due("entry(2, 0, 0)", scene.pair.entry(2, 0, 0), -2);
        Check.due("entry(0, 6, 0)", scene.pair.entry(0, 6, 0), -2);
        Check.due("looking changes nothing", scene.all(), before);
    }

    private static void clients() {
        Scene scene = new Scene();
        scene.lend(0, 0);
        scene.lend(4, 0);
        scene.pair.ask(4, 0);
        int[] due = {2, 6, 2, 1};
        for (int what = 0; what < 4; what++) {
            Check.due("client(4, " + what + ")", scene.pair.client(4, what), due[what]);
        }
        Check.due("client(1, 0)", scene.pair.client(1, 0), -1);
        String before = scene.all();
        for (int edge : EDGES) {
            Check.due("client(" + edge + ", 0)", scene.pair.client(edge, 0), -2);
            Check.due("client(0, " + edge + ")", scene.pair.client(0, edge), -2);
        }
        Check.due("client(5, 0)", scene.pair.client(5, 0), -2);
        Check.due("client(0, 4)", scene.pair.client(0, 4), -2);
        Check.due("looking changes nothing", scene.all(), before);
    }

    private static void messages() {
        Scene scene = new Scene();
        Check.due("none", scene.pair.messages(), 0);
        Check.due("message(0, 0) of none", scene.pair.message(0, 0), -2);
        for (int client = 0; client < 3; client++) {
            scene.lend(client, 0);
        }
        scene.pair.stop(1);
        scene.pair.start(1);
        scene.ticks(1);
        scene.pass(Scene.DEMAND, 0);
        scene.ticks(1);
        scene.loseAll();
        scene.ticks(1);
        scene.pair.ask(3, 0);
        scene.pair.deliver(scene.find(Scene.ASK, 0));
        scene.pair.ask(2, 0);
        scene.pair.deliver(scene.find(Scene.ASK, 0));
        scene.pair.release(1, 0);
        scene.pair.ask(4, 1);
        scene.pass(Scene.UPDATE, 1);
        String[] due = {"4 0 1 1 0 3", "6 1 0 63 0 3", "2 0 3 1 0 3", "1 0 2 2 4 3", "3 1 0 2 0 3", "0 4 1 1 0 3",
            "5 1 0 0 1 3"};
        Check.due("messages", scene.pair.messages(), due.length);
        for (int k = 0; k < due.length; k++) {
            Check.due("message " + k, scene.message(k), due[k]);
        }
        Check.due("message(7, 0)", scene.pair.message(7, 0), -2);
        Check.due("message(0, 6)", scene.pair.message(0, 6), -2);
        String before = scene.all();
        for (int edge : EDGES) {
            Check.due("message(" + edge + ", 0)", scene.pair.message(edge, 0), -2);
            Check.due("message(0, " + edge + ")", scene.pair.message(0, edge), -2);
        }
        Check.due("looking changes nothing", scene.all(), before);
    }
}
