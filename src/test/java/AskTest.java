/** Promise 3, and what ASK, LEASE and DENIAL do when they arrive. */
final class AskTest {
    public static void main(String[] args) {
        wrongInputs();
        anAskIsSent();
        pauseAfterRelease();
        fullListLosesTheAsk();
        addressesOfTheShare();
        leastLentToTheClient();
        untilOfALease();
        untilNeverShrinks();
        aloneLendsForLong();
        aloneLendsTheOtherShareLater();
        aloneLendsWhatIsLongPastByUntil();
        aloneLendsWhatIsLongPastByKnown();
        aloneLendsFreeOnesFirst();
        interruptedServersServe();
        othersDoNothing();
        leasesAndTickets();
        denialsAndTickets();
        Check.end();
    }

    private static void wrongInputs() {
        int[][] wrong = {{-1, 0}, {5, 0}, {0, -1}, {0, 2}, {5, 2}, {Integer.MIN_VALUE, 0}, {Integer.MAX_VALUE, 1},
            {0, Integer.MIN_VALUE}, {4, Integer.MAX_VALUE}};
        Scene scene = new Scene();
        scene.lend(0, 0);
        String before = scene.all();
        for (int[] pair : wrong) {
            Check.no("ask(" + pair[0] + ", " + pair[1] + ")", scene.pair.ask(pair[0], pair[1]));
            Check.due("changing nothing", scene.all(), before);
        }
    }

    private static void anAskIsSent() {
        Scene scene = new Scene();
        Check.yes("ask(3, 1)", scene.pair.ask(3, 1));
        Check.due("the client", scene.client(3), "-1 0 1 1");
        Check.due("the ask", scene.message(0), "0 3 1 1 0 0");
        scene.ticks(2);
        Check.yes("again", scene.pair.ask(3, 0));
        Check.due("the client asks again", scene.client(3), "-1 0 2 1");
        Check.due("the ask after", scene.message(1), "0 3 0 2 0 2");
        scene.pair.stop(0);
        Check.yes("of a stopped server", scene.pair.ask(4, 0));
        Check.due("messages", scene.pair.messages(), 3);
    }

    private static void pauseAfterRelease() {
        Scene scene = new Scene();
        scene.lend(0, 0);
        scene.ticks(1);
        scene.pair.release(0, 0);
        for (int ago = 0; ago < 4; ago++) {
            String before = scene.all();
            Check.no(ago + " ago", scene.pair.ask(0, ago % 2));
            Check.due("changing nothing", scene.all(), before);
            Check.yes("another client", scene.pair.ask(1, 0));
            scene.ticks(1);
        }
        Check.yes("4 ago", scene.pair.ask(0, 1));
    }

    private static void fullListLosesTheAsk() {
        Scene scene = new Scene();
        for (int i = 0; i < 24; i++) {
            Check.yes("there is room", scene.pair.ask(i % 2, 0));
        }
        Check.due("24", scene.pair.messages(), 24);
        Check.yes("it is lost", scene.pair.ask(2, 0));
        Check.due("24 still", scene.pair.messages(), 24);
        Check.due("the client waits", scene.client(2), "-1 0 1 1");
        Check.due("the last", scene.message(23), "0 1 0 12 0 0");
        Check.yes("the answer has room", scene.pair.deliver(0));
        Check.due("the answer", scene.message(23), "1 0 0 1 0 0");
    }

    private static void addressesOfTheShare() {
        Scene scene = new Scene();
        for (int client = 0; client < 3; client++) {
            Check.due("server 1", scene.lend(client, 1), 2 * client + 1);
        }
        Check.due("the record", scene.record(1, 5), "1 2 6 0 0 1 1 1");
        scene.pair.ask(3, 1);
        scene.pair.deliver(0);
        Check.due("a denial", scene.message(0), "2 1 3 1 0 0");
        scene.pair.deliver(0);
        Check.due("denied", scene.client(3), "-1 0 1 0");
        Check.due("server 0", scene.lend(3, 0), 0);
        Check.due("server 0 again", scene.lend(4, 0), 2);
        Check.due("a second address, of the other server", scene.lend(0, 0), 4);
    }

    private static void leastLentToTheClient() {
        Scene scene = new Scene();
        scene.lend(0, 1);
        scene.lend(1, 1);
        Check.due("it holds 3", scene.lend(1, 1), 3);
        scene.lend(1, 0);
        Check.due("it holds 0", scene.client(1), "0 6 3 0");
        scene.goodTicks(1);
        Check.due("two are lent to it: the least", scene.lend(1, 1), 0);
        Check.due("no new age", scene.record(1, 0), "1 1 7 0 21 1 1 1");
        Check.due("the other stays", scene.record(1, 3), "1 1 6 21 0 1 2 0");
    }

    private static void untilOfALease() {
        Scene scene = new Scene();
        scene.deafTicks(2);
        scene.pair.ask(0, 0);
        scene.pair.deliver(0);
        Check.due("the lease", scene.message(0), "1 0 0 1 0 2");
        scene.pair.deliver(0);
        Check.due("TIME + 6", scene.client(0), "0 8 1 0");
        scene.goodTicks(1);
        Check.due("acknowledged", scene.record(0, 0), "1 0 8 23 0 1 1 0");
        scene.lend(0, 0);
        Check.due("TIME + 20", scene.record(0, 0), "1 0 23 23 0 1 2 1");
        Check.due("the client, TIME + 20", scene.client(0), "0 23 2 0");
        scene.deafTicks(7);
        scene.lend(0, 0);
        Check.due("ACKED + 6", scene.record(0, 0), "1 0 29 23 0 1 3 1");
        scene.deafTicks(1);
        scene.lend(0, 0);
        Check.due("ACKED + 6 still", scene.record(0, 0), "1 0 29 23 0 1 4 1");
    }

    private static void untilNeverShrinks() {
        Scene scene = new Scene();
        scene.lend(0, 0);
        scene.goodTicks(1);
        scene.lend(0, 0);
        scene.goodTicks(1);
        Check.due("known to the partner", scene.record(1, 0), "1 0 21 0 22 1 0 0");
        scene.lend(0, 1);
        Check.due("at least TIME + 6", scene.record(1, 0), "1 0 21 0 22 1 1 1");
        Check.due("the client", scene.client(0), "0 21 3 0");
    }

    private static void aloneLendsForLong() {
        Scene scene = new Scene();
        scene.lend(1, 1);
        scene.pair.stop(0);
        scene.pair.alone(1);
        scene.ticks(1);
        scene.lend(0, 1);
        Check.due("TIME + 20", scene.record(1, 3), "1 0 21 0 0 1 1 1");
        scene.lend(1, 1);
        Check.due("one that ran", scene.record(1, 1), "1 1 21 0 0 1 2 1");
    }

    private static void aloneLendsTheOtherShareLater() {
        Scene scene = new Scene();
        scene.ticks(2);
        scene.pair.stop(1);
        scene.ticks(1);
        scene.pair.alone(0);
        for (int client = 0; client < 3; client++) {
            Check.due("its share", scene.lend(client, 0), 2 * client);
        }
        scene.ticks(6);
        Check.due("at SINCE + 6", scene.lend(3, 0), -1);
        scene.ticks(1);
        Check.due("at SINCE + 7", scene.lend(3, 0), 1);
        Check.due("the least of them", scene.lend(4, 0), 3);
    }

    private static void aloneLendsWhatIsLongPastByUntil() {
        Scene scene = new Scene();
        scene.pair.stop(0);
        scene.pair.alone(1);
        scene.ticks(7);
        int[] due = {1, 3, 5, 0, 2};
        for (int client = 0; client < 5; client++) {
            Check.due("at 7", scene.lend(client, 1), due[client]);
        }
        scene.giveBack(0, 1);
        scene.ticks(4);
        Check.due("the last free one", scene.lend(0, 1), 4);
        scene.giveBack(1, 1);
        scene.ticks(22);
        Check.due("UNTIL + 6 is not less", scene.lend(1, 1), -1);
        Check.due("denied", scene.client(1), "-1 0 2 0");
        scene.ticks(1);
        Check.due("the least that is long past", scene.lend(1, 1), 0);
        Check.due("its record", scene.record(1, 0), "1 1 54 0 0 2 3 1");
    }

    private static void aloneLendsWhatIsLongPastByKnown() {
        Scene scene = new Scene();
        scene.lend(0, 0);
        scene.goodTicks(1);
        Check.due("known until 21", scene.record(1, 0), "1 0 6 0 21 1 0 0");
        scene.pair.stop(0);
        scene.pair.alone(1);
        scene.ticks(7);
        int[] due = {1, 3, 5, 2};
        for (int client = 1; client < 5; client++) {
            Check.due("at 8", scene.lend(client, 1), due[client - 1]);
        }
        Check.due("the last free one", scene.lend(0, 1), 4);
        scene.ticks(12);
        scene.giveBack(4, 1);
        scene.ticks(7);
        Check.due("KNOWN + 6 is not less", scene.lend(4, 1), -1);
        scene.ticks(1);
        Check.due("long past", scene.lend(4, 1), 0);
        Check.due("its record", scene.record(1, 0), "1 4 48 0 0 2 2 1");
    }

    private static void aloneLendsFreeOnesFirst() {
        Scene scene = new Scene();
        scene.lend(0, 1);
        scene.goodTicks(1);
        scene.pair.stop(0);
        scene.pair.alone(1);
        scene.giveBack(0, 1);
        Check.due("over and acknowledged", scene.record(1, 1), "2 0 6 21 0 1 2 1");
        scene.ticks(7);
        int[] due = {3, 5, 0, 2};
        for (int client = 1; client < 5; client++) {
            Check.due("at 8", scene.lend(client, 1), due[client - 1]);
        }
        scene.giveBack(1, 1);
        scene.ticks(5);
        Check.due("a free one, though a lesser one is long past", scene.lend(0, 1), 4);
        Check.due("then the one that is long past", scene.lend(1, 1), 1);
        Check.due("nothing acknowledged yet", scene.record(1, 1), "1 1 33 0 0 2 3 1");
    }

    private static void interruptedServersServe() {
        Scene scene = new Scene();
        scene.pair.link(false);
        scene.ticks(1);
        Check.due("its share", scene.lend(0, 1), 1);
        Check.due("TIME + 6", scene.client(0), "1 7 1 0");
        scene.lend(1, 1);
        scene.lend(2, 1);
        scene.ticks(20);
        for (int client = 0; client < 3; client++) {
            Check.due("what is over is not lent again", scene.lend(client, 1), -1);
        }
    }

    private static void othersDoNothing() {
        Scene scene = new Scene();
        scene.pair.stop(0);
        scene.pair.start(0);
        scene.pair.ask(0, 0);
        Check.yes("it arrives", scene.pair.deliver(0));
        Check.due("no answer", scene.pair.messages(), 0);
        Check.due("no change", scene.record(0, 0), "0 -1 0 0 0 0 0 0");
        Check.due("the client waits", scene.client(0), "-1 0 1 1");
    }

    private static void leasesAndTickets() {
        Scene scene = new Scene();
        scene.pair.ask(0, 0);
        scene.pair.ask(0, 1);
        scene.pair.deliver(0);
        scene.pair.deliver(0);
        Check.due("the first lease", scene.message(0), "1 0 0 1 0 0");
        Check.due("the second lease", scene.message(1), "1 1 0 2 1 0");
        Check.yes("an old ticket arrives", scene.pair.deliver(0));
        Check.due("and does nothing", scene.client(0), "-1 0 2 1");
        scene.pair.deliver(0);
        Check.due("its ticket", scene.client(0), "1 6 2 0");
        scene.ticks(1);
        scene.loseAll();
        scene.lend(0, 0);
        Check.due("in place of what it held", scene.client(0), "0 7 3 0");

        scene.pair.ask(0, 0);
        scene.pass(Scene.ASK, 0);
        scene.pair.release(0, 1);
        Check.yes("not waiting: it arrives", scene.pass(Scene.LEASE, 0));
        Check.due("not waiting", scene.client(0), "-1 0 4 0");
    }

    private static void denialsAndTickets() {
        Scene scene = new Scene();
        for (int client = 0; client < 3; client++) {
            scene.lend(client, 0);
        }
        scene.lend(3, 1);
        scene.pair.ask(3, 0);
        scene.pair.deliver(0);
        scene.pair.ask(3, 0);
        Check.due("a denial", scene.message(0), "2 0 3 2 0 0");
        Check.yes("of an old ticket", scene.pair.deliver(0));
        Check.due("it waits on", scene.client(3), "1 6 3 1");
        scene.pair.deliver(0);
        Check.due("a denial of its ticket", scene.message(0), "2 0 3 3 0 0");
        scene.pair.deliver(0);
        Check.due("it holds what it held", scene.client(3), "1 6 3 0");
    }
}
