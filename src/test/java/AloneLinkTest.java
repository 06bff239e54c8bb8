/** Promises 9 and 10. */
final class AloneLinkTest {
    public static void main(String[] args) {
        wrongInputs();
        whoGoesOnAlone();
        sinceIsNow();
        theLink();
        Check.end();
    }

    private static void wrongInputs() {
        int[] wrong = {-1, 2, 3, Integer.MIN_VALUE, Integer.MAX_VALUE};
        Scene scene = new Scene();
        for (int server : wrong) {
            Check.no("alone(" + server + ")", scene.pair.alone(server));
        }
        scene.pair.stop(0);
        String before = scene.all();
        for (int server : wrong) {
            Check.no("alone(" + server + "), one is stopped", scene.pair.alone(server));
            Check.due("changing nothing", scene.all(), before);
        }
    }

    private static void whoGoesOnAlone() {
        Scene scene = new Scene();
        Check.no("its partner is normal", scene.pair.alone(0));
        scene.pair.link(false);
        scene.ticks(1);
        Check.no("its partner is interrupted", scene.pair.alone(0));
        Check.due("interrupted", scene.pair.state(0), 2);
        scene.pair.stop(1);
        Check.no("it is stopped", scene.pair.alone(1));
        Check.yes("interrupted, its partner is stopped", scene.pair.alone(0));
        Check.due("alone", scene.pair.state(0), 3);
        Check.no("alone already", scene.pair.alone(0));

        scene = new Scene();
        scene.pair.stop(0);
        Check.yes("normal, its partner is stopped", scene.pair.alone(1));
        Check.due("alone", scene.pair.state(1), 3);
        Check.due("its partner", scene.pair.state(0), 0);
        scene.pair.start(0);
        Check.no("recovering", scene.pair.alone(0));
        Check.no("its partner recovers", scene.pair.alone(1));

        scene = new Scene();
        scene.pair.stop(0);
        scene.pair.start(0);
        Check.no("normal, its partner recovers", scene.pair.alone(1));
    }

    private static void sinceIsNow() {
        Scene scene = new Scene();
        scene.pair.stop(0);
        scene.ticks(9);
        scene.pair.alone(1);
        scene.ticks(3);
        scene.pair.alone(1);
        for (int client = 0; client < 3; client++) {
            scene.lend(client, 1);
        }
        scene.ticks(3);
        Check.due("6 after", scene.lend(3, 1), -1);
        scene.ticks(1);
        Check.due("7 after", scene.lend(3, 1), 0);
    }

    private static void theLink() {
        Scene scene = new Scene();
        scene.lend(0, 0);
        scene.ticks(1);
        Check.no("up already", scene.pair.link(true));
        String before = scene.all();
        Check.yes("cut", scene.pair.link(false));
        Check.due("nothing else changes", scene.all(), before);
        Check.no("cut already", scene.pair.link(false));
        Check.no("an update does not arrive", scene.pair.deliver(0));
        Check.yes("mended", scene.pair.link(true));
        Check.no("mended already", scene.pair.link(true));
        scene.ticks(1);
        Check.yes("an update arrives", scene.pair.deliver(0));
        Check.due("normal all along", scene.pair.state(0), 1);
    }
}
