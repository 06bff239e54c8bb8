/** Promise 2. */
final class TickTest {
    public static void main(String[] args) {
        timeGrows();
        oldMessagesVanish();
        newMessagesInPlaceOfOld();
        clientsLoseWhatHasEnded();
        recordsEnd();
        statesFollowContact();
        updatesOfTheTwoLeastDirty();
        serverZeroComesFirst();
        onlyNormalServersSendUpdates();
        stoppedServersDoNothing();
        recoveringServersDemand();
        recoveryNeedsTime();
        recoveryNeedsAllAddresses();
        recoveryNeedsContact();
        fullListLosesWhatATickSends();
        Check.end();
    }

    private static void timeGrows() {
        Scene scene = new Scene();
        for (int time = 1; time <= 30; time++) {
            Check.due("tick", scene.pair.tick(), time);
        }
    }

    private static void oldMessagesVanish() {
        Scene scene = new Scene();
        scene.pair.tick();
        scene.pair.ask(0, 0);
        scene.ticks(1);
        scene.pair.ask(1, 1);
        scene.ticks(2);
        Check.due("3 ago", scene.pair.messages(), 2);
        scene.ticks(1);
        Check.due("4 ago", scene.pair.messages(), 1);
        Check.due("the younger one stays", scene.message(0), "0 1 1 1 0 2");
        scene.ticks(1);
        Check.due("both 4 ago", scene.pair.messages(), 0);
        Check.due("the client waits on", scene.client(1), "-1 0 1 1");
    }

    private static void newMessagesInPlaceOfOld() {
        Scene scene = new Scene();
        for (int client = 0; client < 3; client++) {
            scene.pair.ask(client, 0);
        }
        scene.ticks(1);
        scene.pair.ask(3, 0);
        scene.pair.ask(4, 0);
        scene.ticks(3);
        for (int client = 0; client < 3; client++) {
            scene.pair.ask(client, 1);
        }
        String[] due = {"0 3 0 1 0 1", "0 4 0 1 0 1", "0 0 1 2 0 4", "0 1 1 2 0 4", "0 2 1 2 0 4"};
        Check.due("messages", scene.pair.messages(), due.length);
        for (int k = 0; k < due.length; k++) {
            Check.due("message " + k, scene.message(k), due[k]);
        }
    }

    private static void clientsLoseWhatHasEnded() {
        Scene scene = new Scene();
        scene.lend(0, 0);
        scene.ticks(6);
        Check.due("at its until", scene.client(0), "0 6 1 0");
        scene.ticks(1);
        Check.due("after its until", scene.client(0), "-1 0 1 0");
    }

    private static void recordsEnd() {
        Scene scene = new Scene();
        scene.lend(0, 0);
        scene.lend(1, 0);
        scene.deafTicks(6);
        Check.due("at its until", scene.record(0, 0), "1 0 6 0 0 1 1 1");
        scene.deafTicks(1);
        Check.due("after its until", scene.record(0, 0), "2 0 6 0 0 1 2 1");
        Check.due("each of them", scene.record(0, 2), "2 1 6 0 0 1 2 1");
        scene.deafTicks(1);
        Check.due("only once", scene.record(0, 0), "2 0 6 0 0 1 2 1");

        scene = new Scene();
        scene.lend(0, 0);
        scene.pair.link(false);
        scene.ticks(7);
        Check.due("interrupted", scene.record(0, 0), "2 0 6 0 0 1 2 1");

        scene = new Scene();
        scene.lend(0, 1);
        scene.pair.stop(0);
        scene.pair.alone(1);
        scene.ticks(7);
        Check.due("alone", scene.record(1, 1), "2 0 6 0 0 1 2 1");
    }

    private static void statesFollowContact() {
        Scene scene = new Scene();
        scene.lend(0, 0);
        scene.pair.link(false);
        Check.due("before the tick", scene.pair.state(0), 1);
        scene.ticks(1);
        Check.due("cut, server 0", scene.pair.state(0), 2);
        Check.due("cut, server 1", scene.pair.state(1), 2);
        Check.due("cut, messages", scene.pair.messages(), 0);
        scene.ticks(1);
        Check.due("cut still", scene.pair.state(0), 2);
        scene.pair.link(true);
        Check.due("mended, before the tick", scene.pair.state(1), 2);
        scene.ticks(1);
        Check.due("mended, server 0", scene.pair.state(0), 1);
        Check.due("mended, server 1", scene.pair.state(1), 1);
        Check.due("an update in the same tick", scene.message(0), "4 0 1 0 1 3");

        scene = new Scene();
        scene.pair.stop(1);
        scene.ticks(1);
        Check.due("its partner is stopped", scene.pair.state(0), 2);
        Check.due("stopped", scene.pair.state(1), 0);
        scene.pair.start(1);
        scene.ticks(1);
        Check.due("its partner recovers", scene.pair.state(0), 1);
        Check.due("recovers", scene.pair.state(1), 4);

        scene = new Scene();
        scene.pair.stop(1);
        scene.pair.alone(0);
        scene.ticks(1);
        Check.due("alone without contact", scene.pair.state(0), 3);
        scene.pair.start(1);
        scene.ticks(1);
        Check.due("alone with contact", scene.pair.state(0), 3);
    }

    private static void updatesOfTheTwoLeastDirty() {
        Scene scene = new Scene();
        scene.lend(0, 0);
        scene.ticks(1);
        Check.due("one dirty", scene.pair.messages(), 1);
        Check.due("its update", scene.message(0), "4 0 1 0 1 1");
        scene.loseAll();
        scene.lend(1, 0);
        scene.lend(2, 0);
        scene.ticks(1);
        Check.due("three dirty", scene.pair.messages(), 2);
        Check.due("the least", scene.message(0), "4 0 1 0 1 2");
        Check.due("the next", scene.message(1), "4 0 1 2 1 2");
        scene.settle();
        scene.ticks(1);
        Check.due("the last", scene.message(0), "4 0 1 4 1 3");
        scene.settle();
        Check.due("its potential", scene.pair.entry(1, 4, Scene.KNOWN), 23);
        Check.due("the potential acknowledged", scene.pair.entry(0, 4, Scene.ACKED), 23);
        scene.ticks(1);
        Check.due("none dirty", scene.pair.messages(), 0);
    }

    private static void serverZeroComesFirst() {
        Scene scene = new Scene();
        scene.lend(0, 1);
        scene.lend(1, 0);
        scene.lend(2, 0);
        scene.ticks(1);
        Check.due("first", scene.message(0), "4 0 1 0 1 1");
        Check.due("second", scene.message(1), "4 0 1 2 1 1");
        Check.due("third", scene.message(2), "4 1 0 1 1 1");
    }

    private static void onlyNormalServersSendUpdates() {
        Scene scene = new Scene();
        scene.pair.stop(0);
        scene.pair.alone(1);
        scene.lend(0, 1);
        scene.pair.start(0);
        scene.ticks(1);
        Check.due("alone: the demand only", scene.pair.messages(), 1);
        Check.due("alone: the demand", scene.message(0), "6 0 1 63 0 1");
        scene.settle();
        scene.ticks(1);
        Check.due("normal again", scene.pair.messages(), 3);
    }

    private static void stoppedServersDoNothing() {
        Scene scene = new Scene();
        scene.lend(0, 0);
        scene.pair.stop(0);
        scene.ticks(12);
        Check.due("its records stay", scene.record(0, 0), "1 0 6 0 0 1 1 1");
        Check.due("its state stays", scene.pair.state(0), 0);
        Check.due("no messages", scene.pair.messages(), 0);
    }

    private static void recoveringServersDemand() {
        Scene scene = new Scene();
        scene.lend(0, 0);
        scene.pair.stop(0);
        scene.pair.start(0);
        scene.deafTicks(9);
        Check.due("ends no lease", scene.record(0, 0), "1 0 6 0 0 1 1 1");
        scene.ticks(1);
        Check.due("a demand of all", scene.message(0), "6 0 1 63 0 10");
        scene.settle();
        scene.goodTicks(1);
        scene.ticks(1);
        Check.due("a demand of those not got", scene.message(0), "6 0 1 60 0 12");
        scene.loseAll();
        scene.pair.link(false);
        scene.ticks(1);
        Check.due("none without contact", scene.pair.messages(), 0);
    }

    /** Stops server 0 at time 0, and starts it again; by time 4 it has got all. */
    private static Scene recovered() {
        Scene scene = new Scene();
        scene.pair.stop(0);
        scene.pair.start(0);
        scene.goodTicks(4);
        scene.ticks(1);
        Check.due("no demand any more", scene.pair.messages(), 0);
        return scene;
    }

    private static void recoveryNeedsTime() {
        Scene scene = recovered();
        scene.ticks(1);
        Check.due("at SINCE + 6", scene.pair.state(0), 4);
        scene.ticks(1);
        Check.due("at SINCE + 7", scene.pair.state(0), 1);
    }

    private static void recoveryNeedsAllAddresses() {
        Scene scene = new Scene();
        scene.pair.stop(1);
        scene.pair.start(1);
        scene.goodTicks(3);
        scene.deafTicks(6);
        Check.due("four of six", scene.pair.state(1), 4);
        scene.goodTicks(1);
        Check.due("all of them, before the tick", scene.pair.state(1), 4);
        scene.ticks(1);
        Check.due("all of them", scene.pair.state(1), 1);
    }

    private static void recoveryNeedsContact() {
        Scene scene = recovered();
        scene.ticks(1);
        scene.pair.link(false);
        scene.ticks(1);
        Check.due("no contact", scene.pair.state(0), 4);
        scene.pair.link(true);
        scene.ticks(1);
        Check.due("contact again", scene.pair.state(0), 1);
    }

    private static void fullListLosesWhatATickSends() {
        Scene scene = new Scene();
        scene.lend(0, 0);
        scene.lend(1, 0);
        for (int i = 0; i < 23; i++) {
            scene.pair.ask(4, 1);
        }
        scene.ticks(1);
        Check.due("24 at most", scene.pair.messages(), 24);
        Check.due("the one with room", scene.message(23), "4 0 1 0 1 1");
        scene.ticks(1);
        Check.due("all lost", scene.message(23), "4 0 1 0 1 1");
    }
}
