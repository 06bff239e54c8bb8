/** Promises 5 and 6: which message goes out of the list, and whether it arrives. */
final class DeliverTest {
    public static void main(String[] args) {
        wrongInputs();
        messagesOvertake();
        messagesAreLost();
        stoppedServersGetNothing();
        stoppedServersLeasesArrive();
        noContactNoMessage();
        Check.end();
    }

    private static void wrongInputs() {
        Scene scene = new Scene();
        int[] wrong = {-1, 2, 3, 23, 24, 25, Integer.MIN_VALUE, Integer.MAX_VALUE};
        Check.no("deliver(0) of none", scene.pair.deliver(0));
        Check.no("lose(0) of none", scene.pair.lose(0));
        scene.pair.ask(0, 0);
        scene.pair.ask(1, 1);
        String before = scene.all();
        for (int k : wrong) {
            Check.no("deliver(" + k + ")", scene.pair.deliver(k));
            Check.no("lose(" + k + ")", scene.pair.lose(k));
            Check.due("changing nothing", scene.all(), before);
        }
        for (int i = 0; i < 22; i++) {
            scene.pair.ask(2, 0);
        }
        Check.no("deliver(24) of 24", scene.pair.deliver(24));
        Check.yes("lose(23) of 24", scene.pair.lose(23));
        Check.yes("deliver(22) of 23", scene.pair.deliver(22));
    }

    private static void messagesOvertake() {
        Scene scene = new Scene();
        scene.pair.ask(0, 0);
        scene.pair.ask(1, 0);
        scene.pair.ask(2, 0);
        Check.yes("the middle one", scene.pair.deliver(1));
        Check.due("the first", scene.message(0), "0 0 0 1 0 0");
        Check.due("the last", scene.message(1), "0 2 0 1 0 0");
        Check.due("the answer after all", scene.message(2), "1 0 1 1 0 0");
        Check.yes("the answer", scene.pair.deliver(2));
        Check.due("client 1", scene.client(1), "0 6 1 0");
        Check.yes("the last", scene.pair.deliver(1));
        Check.due("its answer", scene.message(1), "1 0 2 1 2 0");
        Check.due("messages", scene.pair.messages(), 2);
    }

    private static void messagesAreLost() {
        Scene scene = new Scene();
        for (int client = 0; client < 4; client++) {
            scene.pair.ask(client, 0);
        }
        String records = scene.record(0, 0);
        Check.yes("lose(1)", scene.pair.lose(1));
        Check.due("messages", scene.pair.messages(), 3);
        Check.due("0", scene.pair.message(0, 1), 0);
        Check.due("1", scene.pair.message(1, 1), 2);
        Check.due("2", scene.pair.message(2, 1), 3);
        Check.yes("lose(2)", scene.pair.lose(2));
        Check.yes("lose(0)", scene.pair.lose(0));
        Check.due("one is left", scene.message(0), "0 2 0 1 0 0");
        Check.due("nothing came of them", scene.record(0, 0), records);
        Check.due("client 1 waits on", scene.client(1), "-1 0 1 1");
        scene.pair.stop(0);
        Check.yes("to a stopped server", scene.pair.lose(0));
    }

    private static void stoppedServersGetNothing() {
        Scene scene = new Scene();
        scene.lend(0, 0);
        scene.pair.release(0, 0);
        scene.pair.ask(1, 0);
        scene.pair.ask(2, 1);
        scene.pair.stop(0);
        Check.no("a release", scene.pair.deliver(0));
        Check.no("an ask", scene.pair.deliver(0));
        Check.due("they have vanished", scene.message(0), "0 2 1 1 0 0");
        Check.due("no change", scene.record(0, 0), "1 0 6 0 0 1 1 1");
        Check.yes("an ask of the other", scene.pair.deliver(0));
        scene.pair.ask(1, 0);
        Check.no("an ask sent since", scene.pair.deliver(1));
    }

    private static void stoppedServersLeasesArrive() {
        Scene scene = new Scene();
        scene.pair.ask(0, 0);
        scene.pair.deliver(0);
        scene.pair.stop(0);
        Check.due("it is there", scene.pair.messages(), 1);
        Check.yes("a lease from a stopped server", scene.pair.deliver(0));
        Check.due("is taken", scene.client(0), "0 6 1 0");
    }

    private static void noContactNoMessage() {
        Scene scene = new Scene();
        scene.lend(0, 0);
        scene.lend(1, 0);
        scene.ticks(1);
        scene.pair.deliver(0);
        Check.due("an update and an acknowledgement", scene.pair.messages(), 2);
        scene.pair.ask(2, 1);
        scene.pair.link(false);
        Check.due("the link holds none back", scene.pair.messages(), 3);
        Check.no("an update", scene.pair.deliver(0));
        Check.due("did not arrive", scene.record(1, 2), "0 -1 0 0 0 0 0 0");
        Check.no("an acknowledgement", scene.pair.deliver(0));
        Check.due("was not heard", scene.record(0, 0), "1 0 6 0 0 1 1 1");
        Check.yes("an ask", scene.pair.deliver(0));
        Check.yes("its answer", scene.pair.deliver(0));

        scene = new Scene();
        scene.lend(0, 0);
        scene.ticks(1);
        scene.pair.link(false);
        scene.pair.link(true);
        Check.yes("contact at the time of delivery counts", scene.pair.deliver(0));

        scene = new Scene();
        scene.pair.stop(0);
        scene.pair.start(0);
        scene.ticks(1);
        scene.pair.link(false);
        Check.no("a demand", scene.pair.deliver(0));
        Check.due("it is gone", scene.pair.messages(), 0);
        Check.due("was not heard", scene.record(1, 0), "0 -1 0 0 0 0 0 0");
    }
}
