/** The boundary cases that the promises 11 to 15 name: what there is not, and each part of what there is. */
final class EdgeLooksTest {
    private static final int[] FAR = {Integer.MIN_VALUE, Integer.MIN_VALUE + 1, -32, -3, -2, 8, 9, 31, 32, 33, 64, 256,
        Integer.MAX_VALUE};

    public static void main(String[] args) {
        states();
        entries();
        entriesOfNone();
        clients();
        clientsOfNone();
        messagesUpTo24();
        messageParts();
        messagesOfNone();
        looksChangeNothing();
        Check.end();
    }

    private static void states() {
        Check.about("state: -1 when there is none");
        Scene scene = new Scene();
        scene.pair.stop(0);
        Check.due("state(-1)", scene.pair.state(-1), -1);
        Check.due("state(0)", scene.pair.state(0), 0);
        Check.due("state(1)", scene.pair.state(1), 1);
        Check.due("state(2)", scene.pair.state(2), -1);
        for (int far : FAR) {
            Check.due("state(" + far + ")", scene.pair.state(far), -1);
        }
    }

    private static void entries() {
        Check.about("entry: 0 kind, 1 client, 2 UNTIL, 3 ACKED, 4 KNOWN, 5 AGE, 6 SERIAL, 7 whether it is dirty (1 or 0)");
        Scene scene = new Scene();
        for (int client = 0; client < 3; client++) {
            scene.lend(client, 1);
        }
        scene.goodTicks(2);
        scene.lend(2, 0);
        int[] due = {1, 2, 8, 0, 22, 1, 1, 1};
        int[] other = {1, 2, 6, 22, 0, 1, 1, 0};
        for (int what = 0; what < 8; what++) {
            Check.due("entry(0, 5, " + what + ")", scene.pair.entry(0, 5, what), due[what]);
            Check.due("entry(1, 5, " + what + ")", scene.pair.entry(1, 5, what), other[what]);
        }
    }

    private static void entriesOfNone() {
        Check.about("entry: -2 when there is no such server, address or what");
        Scene scene = new Scene();
        scene.lend(0, 0);
        int[][] none = {{-1, 0, 0}, {2, 0, 0}, {0, -1, 0}, {0, 6, 0}, {0, 0, -1}, {0, 0, 8}, {1, 6, 7}, {1, 5, 8},
            {2, 6, 8}, {-1, -1, -1}};
        for (int[] look : none) {
            Check.due("entry(" + look[0] + ", " + look[1] + ", " + look[2] + ")",
                    scene.pair.entry(look[0], look[1], look[2]), -2);
        }
        for (int far : FAR) {
            Check.due("entry(" + far + ", 0, 0)", scene.pair.entry(far, 0, 0), -2);
            Check.due("entry(0, " + far + ", 0)", scene.pair.entry(0, far, 0), -2);
            Check.due("entry(0, 0, " + far + ")", scene.pair.entry(0, 0, far), -2);
        }
    }

    private static void clients() {
        Check.about("client: 0 the address that it holds (-1: none), 1 until when (0 if none), 2 its ticket, 3 whether "
                + "it is waiting (1 or 0)");
        Scene scene = new Scene();
        scene.lend(4, 1);
        scene.pair.ask(4, 1);
        int[] due = {1, 6, 2, 1};
        for (int what = 0; what < 4; what++) {
            Check.due("client(4, " + what + ")", scene.pair.client(4, what), due[what]);
        }
        scene.pair.release(4, 1);
        int[] after = {-1, 0, 2, 0};
        for (int what = 0; what < 4; what++) {
            Check.due("client(4, " + what + ")", scene.pair.client(4, what), after[what]);
        }
    }

    private static void clientsOfNone() {
        Check.about("client: -2 when there is no such client or what");
        Scene scene = new Scene();
        scene.lend(0, 0);
        int[][] none = {{-1, 0}, {5, 0}, {0, -1}, {0, 4}, {4, 4}, {5, 3}, {5, 4}, {-1, -1}};
        for (int[] look : none) {
            Check.due("client(" + look[0] + ", " + look[1] + ")", scene.pair.client(look[0], look[1]), -2);
        }
        for (int far : FAR) {
            Check.due("client(" + far + ", 0)", scene.pair.client(far, 0), -2);
            Check.due("client(0, " + far + ")", scene.pair.client(0, far), -2);
        }
    }

    private static void messagesUpTo24() {
        Check.about("messages: How many messages there are");
        Scene scene = new Scene();
        for (int count = 0; count <= 24; count++) {
            Check.due("messages()", scene.pair.messages(), count);
            Check.due("message(" + count + ", 0)", scene.pair.message(count, 0), -2);
            scene.pair.ask(0, 0);
            Check.due("message(" + count + ", 3)", scene.pair.message(count, 3), count < 24 ? count + 1 : -2);
        }
        for (int count = 24; count > 0; count--) {
            Check.due("messages()", scene.pair.messages(), count);
            scene.pair.lose(0);
        }
        Check.due("messages()", scene.pair.messages(), 0);
    }

    private static void messageParts() {
        Check.about("message: 0 its kind, 1 who sent it, 2 to whom it goes, 3 its ticket (..), 4 .. else 0; 5 when it was "
                + "sent");
        Scene scene = new Scene();
        for (int client = 0; client < 3; client++) {
            scene.lend(client, 1);
        }
        scene.pair.ask(3, 1);
        scene.pair.stop(0);
        scene.pair.start(0);
        scene.ticks(1);
        scene.pass(Scene.DEMAND, 1);
        scene.drop(Scene.UPDATE, 0);
        scene.drop(Scene.UPDATE, 0);
        scene.pass(Scene.ASK, 1);
        scene.pair.ask(2, 1);
        scene.pass(Scene.ASK, 1);
        scene.pair.release(1, 1);
        scene.ticks(1);
        scene.pass(Scene.UPDATE, 0, 1);
        scene.pair.ask(4, 0);
        String[] due = {"2 1 3 1 0 1", "1 1 2 2 5 1", "3 1 1 3 0 1", "6 0 1 63 0 2", "4 1 0 0 0 2", "5 0 1 1 1 2",
            "0 4 0 1 0 2"};
        Check.due("messages", scene.pair.messages(), due.length);
        for (int k = 0; k < due.length; k++) {
            Check.due("message " + k, scene.message(k), due[k]);
        }
        scene = new Scene();
        scene.lend(3, 1);
        scene.ticks(1);
        scene.giveBack(3, 1);
        scene.ticks(1);
        Check.due("an update that is LENT", scene.message(0), "4 1 0 1 1 1");
        Check.due("an update that is OVER", scene.message(1), "4 1 0 1 2 2");
    }

    private static void messagesOfNone() {
        Check.about("message: -2 when there is no such message or what");
        Scene scene = new Scene();
        Check.due("message(0, 0) of none", scene.pair.message(0, 0), -2);
        scene.pair.ask(0, 0);
        scene.pair.ask(1, 0);
        int[][] none = {{-1, 0}, {2, 0}, {23, 0}, {24, 0}, {0, -1}, {0, 6}, {1, 6}, {2, 6}, {-1, -1}};
        for (int[] look : none) {
            Check.due("message(" + look[0] + ", " + look[1] + ")", scene.pair.message(look[0], look[1]), -2);
        }
        for (int far : FAR) {
            Check.due("message(" + far + ", 0)", scene.pair.message(far, 0), -2);
            Check.due("message(0, " + far + ")", scene.pair.message(0, far), -2);
        }
        scene.pair.lose(0);
        Check.due("message(0, 1)", scene.pair.message(0, 1), 1);
        Check.due("message(1, 1), one is left", scene.pair.message(1, 1), -2);
        scene.pair.lose(0);
        Check.due("message(0, 1), none is left", scene.pair.message(0, 1), -2);
    }

    private static void looksChangeNothing() {
        Check.about("a call that only looks changes nothing");
        Scene scene = new Scene();
        scene.lend(0, 0);
        scene.lend(1, 1);
        scene.ticks(1);
        scene.pair.ask(2, 0);
        String before = scene.seen();
        for (int far : FAR) {
            scene.pair.state(far);
            scene.pair.entry(far, far, far);
            scene.pair.client(far, far);
            scene.pair.messages();
            scene.pair.message(far, far);
        }
        Check.due("all that can be seen", scene.seen(), before);
    }
}
