/** Promises 7 and 8, and how a server recovers: DEMAND, and UPDATE to a RECOVERING server. */
final class StopStartTest {
    public static void main(String[] args) {
        wrongInputs();
        whoStops();
        messagesBetweenServersVanish();
        aFullListIsCleared();
        recordsStay();
        whoStarts();
        aDemand();
        aDemandEndsAlone();
        updatesOfAnotherSession();
        sessionsGrow();
        whatRunsIsNotGivenUp();
        whatRunsIsKeptAsLong();
        whatDoesNotRunIsReplaced();
        aLaterUpdate();
        aLaterUpdateOfAFreeOne();
        gotIsForgotten();
        Check.end();
    }

    private static void wrongInputs() {
        int[] wrong = {-1, 2, 3, Integer.MIN_VALUE, Integer.MAX_VALUE};
        Scene scene = new Scene();
        scene.lend(0, 0);
        scene.ticks(1);
        String before = scene.all();
        for (int server : wrong) {
            Check.no("stop(" + server + ")", scene.pair.stop(server));
            Check.no("start(" + server + ")", scene.pair.start(server));
            Check.due("changing nothing", scene.all(), before);
        }
        scene.pair.stop(1);
        before = scene.all();
        for (int server : wrong) {
            Check.no("start(" + server + "), one is stopped", scene.pair.start(server));
            Check.due("changing nothing", scene.all(), before);
        }
    }

    private static void whoStops() {
        Scene scene = new Scene();
        Check.yes("normal", scene.pair.stop(1));
        Check.due("stopped", scene.pair.state(1), 0);
        Check.due("its partner, before the tick", scene.pair.state(0), 1);
        Check.no("stopped already", scene.pair.stop(1));
        Check.no("its partner is stopped", scene.pair.stop(0));
        scene.pair.start(1);
        Check.no("recovering", scene.pair.stop(1));
        Check.no("its partner recovers", scene.pair.stop(0));
        scene.goodTicks(7);
        Check.due("normal again", scene.pair.state(1), 1);
        Check.yes("stopped again", scene.pair.stop(0));

        scene = new Scene();
        scene.pair.link(false);
        scene.ticks(1);
        Check.yes("interrupted", scene.pair.stop(0));

        scene = new Scene();
        scene.pair.stop(0);
        scene.pair.alone(1);
        Check.no("alone, its partner is stopped", scene.pair.stop(1));
        scene.pair.start(0);
        Check.no("alone, its partner recovers", scene.pair.stop(1));
    }

    private static void messagesBetweenServersVanish() {
        Scene scene = new Scene();
        scene.lend(0, 0);
        scene.lend(1, 0);
        scene.pair.ask(2, 0);
        scene.ticks(1);
        scene.pair.ask(3, 1);
        scene.pass(Scene.UPDATE, 1);
        scene.pair.deliver(scene.find(Scene.ASK, 1));
        scene.pair.release(0, 1);
        Check.due("before", scene.pair.messages(), 5);
        String refused = scene.all();
        scene.pair.stop(2);
        Check.due("refused", scene.all(), refused);
        scene.pair.stop(1);
        Check.due("after", scene.pair.messages(), 3);
        Check.due("an ask", scene.message(0), "0 2 0 1 0 0");
        Check.due("a lease", scene.message(1), "1 1 3 1 1 1");
        Check.due("a release", scene.message(2), "3 0 1 0 0 1");
    }

    private static void aFullListIsCleared() {
        Scene scene = new Scene();
        scene.lend(0, 0);
        scene.ticks(1);
        for (int i = 0; i < 23; i++) {
            scene.pair.ask(1, 0);
        }
        Check.due("full", scene.pair.messages(), 24);
        Check.yes("stop(1)", scene.pair.stop(1));
        Check.due("but for the update", scene.pair.messages(), 23);
        Check.due("the first", scene.message(0), "0 1 0 1 0 1");
        Check.due("the last", scene.message(22), "0 1 0 23 0 1");
    }

    private static void recordsStay() {
        Scene scene = new Scene();
        scene.lend(0, 0);
        scene.goodTicks(1);
        scene.pair.stop(0);
        Check.due("stopped", scene.record(0, 0), "1 0 6 21 0 1 1 0");
        scene.pair.start(0);
        Check.due("started", scene.record(0, 0), "1 0 6 21 0 1 1 0");
    }

    private static void whoStarts() {
        Scene scene = new Scene();
        Check.no("normal", scene.pair.start(0));
        scene.pair.link(false);
        scene.ticks(1);
        Check.no("interrupted", scene.pair.start(0));
        scene.pair.stop(0);
        Check.no("the link is cut", scene.pair.start(0));
        Check.due("stopped still", scene.pair.state(0), 0);
        scene.pair.link(true);
        Check.no("not this one", scene.pair.start(1));
        scene.pair.alone(1);
        Check.no("alone", scene.pair.start(1));
        Check.yes("stopped", scene.pair.start(0));
        Check.due("recovering", scene.pair.state(0), 4);
        Check.no("recovering already", scene.pair.start(0));
    }

    private static void aDemand() {
        Scene scene = new Scene();
        scene.lend(0, 1);
        scene.goodTicks(1);
        scene.pair.stop(0);
        scene.pair.start(0);
        scene.ticks(1);
        Check.due("a demand", scene.message(0), "6 0 1 63 0 2");
        Check.yes("it arrives", scene.pair.deliver(0));
        Check.due("dirty, no new serial", scene.record(1, 1), "1 0 6 21 0 1 1 1");
        Check.due("free and dirty", scene.record(1, 0), "0 -1 0 0 0 0 0 1");
        scene.ticks(1);
        Check.due("a demand again", scene.message(0), "6 0 1 63 0 3");
        Check.due("an update of a free one", scene.message(1), "4 1 0 0 0 3");
        Check.due("an update of a lent one", scene.message(2), "4 1 0 1 1 3");
        scene.pair.deliver(1);
        Check.due("an acknowledgement", scene.message(2), "5 0 1 0 0 3");
        scene.pair.deliver(2);
        Check.due("clean, and free", scene.record(1, 0), "0 -1 0 0 0 0 0 0");
        scene.pair.deliver(1);
        scene.pair.deliver(1);
        Check.due("clean, and lent", scene.record(1, 1), "1 0 6 23 0 1 1 0");
        Check.due("got", scene.record(0, 1), "1 0 6 0 23 1 0 0");
        scene.ticks(1);
        int late = scene.pair.messages() - 3;
        Check.due("a demand of the others", scene.message(late), "6 0 1 60 0 4");
        Check.due("updates of the others", scene.message(late + 1), "4 1 0 2 0 4");
        scene.pair.deliver(late);
        Check.due("not demanded", scene.pair.entry(1, 0, Scene.DIRTY), 0);
        Check.due("demanded", scene.pair.entry(1, 5, Scene.DIRTY), 1);
    }

    private static void aDemandEndsAlone() {
        Scene scene = new Scene();
        scene.pair.stop(0);
        scene.pair.alone(1);
        scene.pair.start(0);
        scene.ticks(1);
        Check.due("alone", scene.pair.state(1), 3);
        scene.pair.deliver(0);
        Check.due("normal", scene.pair.state(1), 1);

        scene = new Scene();
        scene.pair.stop(0);
        scene.pair.start(0);
        scene.ticks(1);
        scene.pair.link(false);
        scene.ticks(1);
        scene.pair.link(true);
        Check.due("interrupted", scene.pair.state(1), 2);
        scene.pair.deliver(0);
        Check.due("interrupted still", scene.pair.state(1), 2);
        Check.due("dirty", scene.pair.entry(1, 3, Scene.DIRTY), 1);
    }

    private static void updatesOfAnotherSession() {
        Scene scene = new Scene();
        scene.lend(0, 1);
        scene.pair.stop(0);
        scene.pair.start(0);
        scene.ticks(1);
        Check.due("an update without the session", scene.message(1), "4 1 0 1 1 1");
        Check.yes("it arrives", scene.pair.deliver(1));
        Check.due("nothing", scene.record(0, 1), "0 -1 0 0 0 0 0 0");
        Check.due("no acknowledgement", scene.pair.messages(), 1);
        scene.pair.deliver(0);
        scene.ticks(1);
        scene.pair.lose(0);
        scene.pair.deliver(1);
        Check.due("with the session", scene.record(0, 1), "1 0 6 0 22 1 0 0");

        scene = new Scene();
        scene.lend(0, 1);
        scene.pair.stop(0);
        scene.pair.start(0);
        scene.ticks(1);
        scene.pair.deliver(0);
        scene.lend(0, 1);
        scene.ticks(1);
        Check.due("the update without the session", scene.message(0), "4 1 0 1 1 1");
        Check.due("the update with it", scene.message(3), "4 1 0 1 1 2");
        scene.pair.deliver(3);
        Check.due("got", scene.record(0, 1), "1 0 7 0 22 1 0 0");
        int messages = scene.pair.messages();
        Check.yes("the elder arrives", scene.pair.deliver(0));
        Check.due("nothing, though it has got it", scene.pair.messages(), messages - 1);
    }

    private static void sessionsGrow() {
        Scene scene = new Scene();
        scene.pair.stop(0);
        scene.pair.start(0);
        scene.goodTicks(7);
        Check.due("normal", scene.pair.state(0), 1);
        scene.lend(0, 1);
        scene.pair.stop(0);
        scene.pair.start(0);
        scene.ticks(1);
        Check.due("an update of session 1", scene.message(1), "4 1 0 1 1 8");
        scene.pair.deliver(1);
        Check.due("is not of session 2", scene.record(0, 1), "0 -1 0 0 0 0 0 0");
        scene.pair.deliver(0);
        scene.goodTicks(1);
        Check.due("session 2", scene.record(0, 1), "1 0 13 0 29 1 0 0");
    }

    private static void whatRunsIsNotGivenUp() {
        Scene scene = new Scene();
        scene.lend(0, 0);
        scene.pair.stop(0);
        scene.pair.start(0);
        scene.goodTicks(6);
        Check.due("it runs at 6", scene.record(0, 0), "1 0 6 0 0 1 1 1");
        scene.ticks(1);
        Check.due("it is demanded still", scene.pair.message(0, 3) & 1, 1);
        scene.settle();
        Check.due("free, of the lesser age", scene.record(0, 0), "0 -1 0 0 0 0 1 0");

        scene = new Scene();
        scene.lend(0, 0);
        scene.goodTicks(1);
        scene.pair.release(0, 1);
        scene.settle();
        Check.due("over at the partner", scene.record(1, 0), "2 0 6 0 21 1 1 1");
        scene.pair.stop(0);
        scene.pair.start(0);
        scene.goodTicks(5);
        Check.due("runs, of the same age", scene.record(0, 0), "1 0 6 21 0 1 1 0");
        scene.goodTicks(1);
        Check.due("over of the same age", scene.record(0, 0), "0 -1 0 0 0 1 1 0");
        Check.due("free at the partner", scene.record(1, 0), "0 -1 0 0 0 1 1 0");
    }

    private static void whatRunsIsKeptAsLong() {
        Scene scene = new Scene();
        scene.lend(0, 0);
        scene.goodTicks(1);
        scene.lend(0, 0);
        Check.due("before", scene.record(0, 0), "1 0 21 21 0 1 2 1");
        scene.pair.stop(0);
        scene.pair.start(0);
        scene.goodTicks(2);
        Check.due("UNTIL at least what it was", scene.record(0, 0), "1 0 21 0 23 1 2 0");
        Check.due("at the partner", scene.record(1, 0), "1 0 6 23 21 1 0 0");

        scene = new Scene();
        scene.lend(0, 0);
        scene.goodTicks(1);
        scene.lend(0, 1);
        scene.pair.stop(0);
        scene.pair.start(0);
        scene.goodTicks(2);
        Check.due("UNTIL of the update", scene.record(0, 0), "1 0 7 0 23 1 1 0");
    }

    private static void whatDoesNotRunIsReplaced() {
        Scene scene = new Scene();
        scene.lend(0, 1);
        scene.lend(1, 0);
        scene.goodTicks(1);
        scene.pair.stop(0);
        scene.ticks(2);
        scene.lend(0, 1);
        Check.due("longer at the partner", scene.record(1, 1), "1 0 23 21 0 1 2 1");
        scene.ticks(6);
        scene.pair.start(0);
        Check.due("it has ended", scene.record(0, 1), "1 0 6 0 21 1 0 0");
        scene.goodTicks(2);
        Check.due("lent", scene.record(0, 1), "1 0 23 0 31 1 0 0");
        Check.due("free by over", scene.record(0, 0), "0 -1 0 0 0 1 1 0");
        Check.due("over, acknowledged", scene.record(1, 0), "0 -1 0 0 0 1 1 0");

        scene = new Scene();
        scene.lend(0, 1);
        scene.goodTicks(1);
        scene.pair.stop(0);
        scene.pair.start(0);
        scene.goodTicks(1);
        scene.deafTicks(3);
        scene.ticks(1);
        Check.due("sent at its until", scene.message(2), "4 1 0 1 1 6");
        scene.ticks(1);
        scene.pair.deliver(2);
        Check.due("lent though it has ended", scene.record(0, 1), "1 0 6 0 26 1 0 0");
    }

    private static void aLaterUpdate() {
        Scene scene = new Scene();
        scene.lend(0, 1);
        scene.goodTicks(1);
        scene.pair.stop(0);
        scene.pair.start(0);
        scene.goodTicks(2);
        Check.due("got", scene.record(0, 1), "1 0 6 0 23 1 0 0");
        scene.giveBack(0, 1);
        scene.ticks(1);
        Check.yes("over", scene.pass(Scene.UPDATE, 0));
        Check.due("nothing, it runs", scene.record(0, 1), "1 0 6 0 23 1 0 0");
        scene.loseAll();
        scene.lend(1, 1);
        Check.due("it got 3", scene.client(1), "3 10 1 0");
        scene.goodTicks(1);
        scene.goodTicks(2);
        Check.due("recovering", scene.pair.state(0), 4);
        Check.due("freed as by a server that serves", scene.record(0, 1), "0 -1 0 0 0 1 0 0");
    }

    private static void aLaterUpdateOfAFreeOne() {
        Scene scene = new Scene();
        scene.pair.stop(0);
        scene.pair.start(0);
        scene.goodTicks(1);
        scene.ticks(1);
        Check.yes("the first", scene.pass(Scene.UPDATE, 0));
        scene.drop(Scene.ACKNOWLEDGEMENT, 1);
        scene.ticks(1);
        scene.pass(Scene.UPDATE, 0);
        scene.loseAll();
        scene.ticks(1);
        Check.yes("the second of address 0", scene.pass(Scene.UPDATE, 0));
        Check.due("is acknowledged, too", scene.message(scene.find(Scene.ACKNOWLEDGEMENT, 1)), "5 0 1 0 0 4");
        scene.pass(Scene.ACKNOWLEDGEMENT, 1);
        Check.due("clean", scene.record(1, 0), "0 -1 0 0 0 0 0 0");
    }

    private static void gotIsForgotten() {
        Scene scene = new Scene();
        scene.pair.stop(0);
        scene.pair.start(0);
        scene.goodTicks(7);
        scene.pair.stop(0);
        scene.pair.start(0);
        scene.ticks(1);
        Check.due("a demand of all again", scene.message(0), "6 0 1 63 0 8");
        scene.settle();
        scene.goodTicks(5);
        Check.due("SINCE is anew", scene.pair.state(0), 4);
        scene.goodTicks(1);
        Check.due("normal", scene.pair.state(0), 1);
    }
}
