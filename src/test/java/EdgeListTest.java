/** The boundary cases of the list of messages: at most 24, in order, and what is lost when there are 24. */
final class EdgeListTest {
    public static void main(String[] args) {
        asksWhenItIsFull();
        releasesWhenItIsFull();
        updatesWhenItIsFull();
        demandsWhenItIsFull();
        demandAfterUpdatesWhenItIsFull();
        leaseTakesThePlaceOfItsAsk();
        denialTakesThePlaceOfItsAsk();
        acknowledgementTakesThePlaceOfItsUpdate();
        aTickMakesRoomFirst();
        aLossMakesRoom();
        aStopMakesRoom();
        newOnesAfterSomeVanished();
        theOrderOfSending();
        Check.end();
    }

    private static void asksWhenItIsFull() {
        Check.about("MESSAGES are in a list, at most 24; one that is sent when there are 24 is lost");
        Scene scene = new Scene();
        scene.fillUpTo(22);
        scene.pair.ask(0, 0);
        Check.due("23", scene.pair.messages(), 23);
        scene.pair.ask(1, 0);
        Check.due("24", scene.pair.messages(), 24);
        Check.due("the 24th", scene.message(23), "0 1 0 1 0 0");
        String before = scene.message(0) + "/" + scene.message(23);
        Check.yes("sent all the same", scene.pair.ask(2, 0));
        Check.due("24 still", scene.pair.messages(), 24);
        Check.due("no 25th", scene.pair.message(24, 0), -2);
        Check.due("the first and the last stay", scene.message(0) + "/" + scene.message(23), before);
        Check.due("its client waits", scene.client(2), "-1 0 1 1");
    }

    private static void releasesWhenItIsFull() {
        for (int there = 23; there <= 24; there++) {
            Scene scene = new Scene();
            scene.lend(0, 0);
            scene.fillUpTo(there);
            Check.yes("sent with " + there + " there", scene.pair.release(0, 1));
            Check.due("24", scene.pair.messages(), 24);
            Check.due("the last", scene.message(23), there == 23 ? "3 0 1 0 0 0" : "0 4 1 24 0 0");
            Check.due("its client holds none", scene.client(0), "-1 0 1 0");
            Check.no("it has released", scene.pair.ask(0, 0));
        }
    }

    private static void updatesWhenItIsFull() {
        for (int there = 21; there <= 24; there++) {
            Scene scene = new Scene();
            scene.lend(0, 0);
            scene.lend(1, 0);
            scene.fillUpTo(there);
            scene.ticks(1);
            Check.due("with " + there + " there", scene.pair.messages(), Math.min(24, there + 2));
            String first = there <= 23 ? "4 0 1 0 1 1" : "-2 -2 -2 -2 -2 -2";
            String second = there <= 22 ? "4 0 1 2 1 1" : "-2 -2 -2 -2 -2 -2";
            Check.due("the first update", scene.message(there), first);
            Check.due("the second update", scene.message(there + 1), second);
            Check.due("dirty all the same", scene.pair.entry(0, 2, Scene.DIRTY), 1);
        }
    }

    private static void demandsWhenItIsFull() {
        for (int there = 23; there <= 24; there++) {
            Scene scene = new Scene();
            scene.lend(0, 1);
            scene.pair.stop(0);
            scene.pair.start(0);
            scene.fillUpTo(there);
            scene.ticks(1);
            Check.due("24", scene.pair.messages(), 24);
            Check.due("the last", scene.message(23), there == 23 ? "6 0 1 63 0 1" : "0 4 1 24 0 0");
        }
    }

    private static void demandAfterUpdatesWhenItIsFull() {
        for (int there = 22; there <= 23; there++) {
            Scene scene = new Scene();
            scene.lend(0, 0);
            scene.pair.stop(1);
            scene.pair.start(1);
            scene.fillUpTo(there);
            scene.ticks(1);
            Check.due("24", scene.pair.messages(), 24);
            Check.due("the update of server 0", scene.message(there), "4 0 1 0 1 1");
            Check.due("the last", scene.message(23), there == 22 ? "6 1 0 63 0 1" : "4 0 1 0 1 1");
        }
    }

    private static void leaseTakesThePlaceOfItsAsk() {
        Check.about("To ARRIVE means: it goes out of the list, and what is said here happens");
        Scene scene = new Scene();
        scene.pair.ask(0, 0);
        scene.fillUpTo(24);
        Check.yes("an ask", scene.pair.deliver(0));
        Check.due("24", scene.pair.messages(), 24);
        Check.due("the lease", scene.message(23), "1 0 0 1 0 0");
        Check.yes("a lease", scene.pair.deliver(23));
        Check.due("23", scene.pair.messages(), 23);
        Check.due("is held", scene.client(0), "0 6 1 0");
    }

    private static void denialTakesThePlaceOfItsAsk() {
        Scene scene = new Scene();
        for (int client = 0; client < 3; client++) {
            scene.lend(client, 0);
        }
        scene.fillUpTo(10);
        scene.pair.ask(3, 0);
        scene.fillUpTo(24);
        Check.yes("an ask", scene.pair.deliver(10));
        Check.due("24", scene.pair.messages(), 24);
        Check.due("the denial", scene.message(23), "2 0 3 1 0 0");
    }

    private static void acknowledgementTakesThePlaceOfItsUpdate() {
        Scene scene = new Scene();
        scene.lend(0, 0);
        scene.ticks(1);
        scene.fillUpTo(24);
        Check.yes("an update", scene.pair.deliver(0));
        Check.due("24", scene.pair.messages(), 24);
        Check.due("the acknowledgement", scene.message(23), "5 1 0 0 1 1");
        Check.due("the update was read, not what took its place", scene.record(1, 0), "1 0 6 0 21 1 0 0");
    }

    private static void aTickMakesRoomFirst() {
        Check.about("Messages that were sent more than 3 ago vanish. Then for server 0, then 1");
        Scene scene = new Scene();
        scene.pair.ask(0, 1);
        scene.ticks(3);
        scene.lend(1, 0);
        scene.lend(2, 0);
        scene.fillUpTo(24);
        scene.ticks(1);
        Check.due("24", scene.pair.messages(), 24);
        Check.due("the eldest has vanished", scene.message(0), "0 4 1 1 0 3");
        Check.due("an update has its room", scene.message(23), "4 0 1 0 1 4");
    }

    private static void aLossMakesRoom() {
        Check.about("it VANISHES if it goes out of the list without that");
        Scene scene = new Scene();
        scene.fillUpTo(24);
        Check.yes("lost", scene.pair.lose(23));
        scene.pair.ask(0, 0);
        Check.due("the last", scene.message(23), "0 0 0 1 0 0");
        Check.yes("lost", scene.pair.lose(0));
        scene.pair.ask(1, 0);
        Check.due("the last but one", scene.message(22), "0 0 0 1 0 0");
        Check.due("the last after it", scene.message(23), "0 1 0 1 0 0");
        scene.pair.ask(2, 0);
        Check.due("full again", scene.message(23), "0 1 0 1 0 0");
    }

    private static void aStopMakesRoom() {
        Check.about("stop: all messages between the servers vanish");
        Scene scene = new Scene();
        scene.lend(0, 0);
        scene.lend(1, 1);
        scene.ticks(1);
        scene.fillUpTo(23);
        scene.pair.deliver(0);
        scene.fillUpTo(24);
        Check.due("the first is an update", scene.message(0), "4 1 0 1 1 1");
        Check.due("the last is an ask", scene.message(23), "0 4 1 22 0 1");
        Check.due("one between them is an acknowledgement", scene.message(22), "5 1 0 0 1 1");
        Check.yes("stop(0)", scene.pair.stop(0));
        Check.due("but for those two", scene.pair.messages(), 22);
        Check.due("the first", scene.message(0), "0 4 1 1 0 1");
        Check.due("the last", scene.message(21), "0 4 1 22 0 1");

        scene = new Scene();
        scene.fillUpTo(24);
        Check.yes("stop(1)", scene.pair.stop(1));
        Check.due("there was none", scene.pair.messages(), 24);

        scene = new Scene();
        scene.lend(0, 0);
        scene.ticks(1);
        Check.due("the only one is an update", scene.pair.messages(), 1);
        Check.yes("stop(1)", scene.pair.stop(1));
        Check.due("none is left", scene.pair.messages(), 0);
    }

    private static void newOnesAfterSomeVanished() {
        Check.about("in the order in which they were sent");
        Scene scene = new Scene();
        scene.pair.ask(0, 0);
        scene.pair.ask(1, 0);
        scene.ticks(1);
        scene.pair.ask(2, 0);
        scene.pair.ask(3, 0);
        scene.pair.ask(4, 0);
        scene.ticks(3);
        scene.pair.ask(0, 1);
        scene.pair.ask(1, 1);
        String[] due = {"0 2 0 1 0 1", "0 3 0 1 0 1", "0 4 0 1 0 1", "0 0 1 2 0 4", "0 1 1 2 0 4"};
        Check.due("messages", scene.pair.messages(), due.length);
        for (int k = 0; k < due.length; k++) {
            Check.due("message " + k, scene.message(k), due[k]);
        }
    }

    private static void theOrderOfSending() {
        Check.about("in the order in which they were sent");
        Scene scene = new Scene();
        scene.lend(0, 0);
        scene.pair.ask(1, 1);
        scene.ticks(1);
        scene.pair.ask(2, 1);
        scene.pair.release(0, 1);
        scene.pair.deliver(0);
        scene.pair.deliver(0);
        String[] due = {"0 2 1 1 0 1", "3 0 1 0 0 1", "1 1 1 1 1 1", "5 1 0 0 1 1"};
        Check.due("messages", scene.pair.messages(), due.length);
        for (int k = 0; k < due.length; k++) {
            Check.due("message " + k, scene.message(k), due[k]);
        }
        Check.due("none after the last", scene.pair.message(due.length, 0), -2);
    }
}
