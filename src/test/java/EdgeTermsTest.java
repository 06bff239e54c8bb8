/** The boundary cases that the sections 'What it is' and 'Terms' name before the messages' own. */
final class EdgeTermsTest {
    private static final String FREE_AT_FIRST = "0 -1 0 0 0 0 0 0";

    public static void main(String[] args) {
        ticksUpToTheLastCall();
        ticketsUpToTheLastCall();
        serialsUpToTheLastCall();
        timeAtFirst();
        numbers();
        shares();
        linkAtFirst();
        sessionsAtFirst();
        contactNeedsTheLink();
        contactNeedsBothServers();
        contactWithOneThatRecovers();
        everyWayToBecomeFree();
        serialsGrowByOne();
        serialsOfOthersDoNotCount();
        dirtyUntilAcknowledged();
        recordsStay();
        clientsAtFirst();
        Check.end();
    }

    private static void ticksUpToTheLastCall() {
        Check.about("An object is used for at most 512 calls after it has been made");
        Scene scene = new Scene();
        scene.ticks(510);
        Check.due("call 511", scene.pair.tick(), 511);
        Check.due("call 512", scene.pair.tick(), 512);
    }

    private static void ticketsUpToTheLastCall() {
        Scene scene = new Scene();
        for (int i = 0; i < 511; i++) {
            scene.pair.ask(0, 1);
        }
        Check.due("call 512: the ticket", scene.pair.client(0, 2), 511);
    }

    private static void serialsUpToTheLastCall() {
        Scene scene = new Scene();
        for (int i = 0; i < 170; i++) {
            scene.pair.ask(0, 0);
            scene.pair.deliver(0);
            scene.pair.deliver(0);
        }
        Check.due("call 511: SERIAL", scene.pair.entry(0, 0, Scene.SERIAL), 170);
        Check.due("call 512: AGE", scene.pair.entry(0, 0, Scene.AGE), 1);
    }

    private static void timeAtFirst() {
        Check.about("TIME is a number, 0 at first");
        Scene scene = new Scene();
        scene.pair.ask(0, 0);
        Check.due("sent at first", scene.message(0), "0 0 0 1 0 0");
        Check.due("the first tick", scene.pair.tick(), 1);
        scene.pair.ask(1, 1);
        Check.due("sent after it", scene.message(1), "0 1 1 1 0 1");
    }

    private static void numbers() {
        Scene scene = new Scene();
        Check.about("SERVERS 0 and 1");
        int[] states = {-1, 1, 1, -1};
        for (int server = -1; server <= 2; server++) {
            Check.due("state(" + server + ")", scene.pair.state(server), states[server + 1]);
        }
        Check.about("CLIENTS 0 .. 4");
        int[] holds = {-2, -1, -1, -1, -1, -1, -2};
        for (int client = -1; client <= 5; client++) {
            Check.due("client(" + client + ", 0)", scene.pair.client(client, 0), holds[client + 1]);
        }
        Check.about("ADDRESSES 0 .. 5");
        int[] kinds = {-2, 0, 0, 0, 0, 0, 0, -2};
        for (int address = -1; address <= 6; address++) {
            Check.due("entry(0, " + address + ", 0)", scene.pair.entry(0, address, 0), kinds[address + 1]);
        }
    }

    private static void shares() {
        Check.about("each of the SHARE of the server that has its number modulo 2");
        for (int server = 0; server < 2; server++) {
            Scene scene = new Scene();
            for (int client = 0; client < 3; client++) {
                Check.due("server " + server, scene.lend(client, server), 2 * client + server);
            }
            Check.due("server " + server + ", a fourth", scene.lend(3, server), -1);
            for (int address = 0; address < 6; address++) {
                int kind = address % 2 == server ? 1 : 0;
                Check.due("kind of " + address, scene.pair.entry(server, address, Scene.KIND), kind);
            }
        }
    }

    private static void linkAtFirst() {
        Check.about("The LINK between the servers is up at first");
        Scene scene = new Scene();
        scene.ticks(1);
        Check.due("server 0 has contact", scene.pair.state(0), 1);
        Check.due("server 1 has contact", scene.pair.state(1), 1);
        Check.no("so already", scene.pair.link(true));
        Check.yes("not so yet", scene.pair.link(false));
    }

    private static void sessionsAtFirst() {
        Check.about("a SESSION number, and one that it knows of its partner (both 0 at first)");
        for (int server = 0; server < 2; server++) {
            Scene scene = new Scene();
            scene.lend(0, 1 - server);
            scene.pair.stop(server);
            scene.pair.start(server);
            scene.ticks(1);
            int address = 1 - server;
            Check.yes("an update with session 0", scene.pass(Scene.UPDATE, server));
            Check.due("is not of session 1", scene.record(server, address), FREE_AT_FIRST);
            Check.yes("the demand tells session 1", scene.pass(Scene.DEMAND, 1 - server));
            scene.ticks(1);
            Check.yes("an update with session 1", scene.pass(Scene.UPDATE, server, address));
            Check.due("is taken", scene.record(server, address), "1 0 6 0 22 1 0 0");
        }
    }

    private static void contactNeedsTheLink() {
        Check.about("There is CONTACT if neither is STOPPED and the link is up");
        Scene scene = new Scene();
        scene.lend(0, 0);
        scene.pair.link(false);
        scene.ticks(1);
        Check.due("no contact: 0", scene.pair.state(0), 2);
        Check.due("no contact: 1", scene.pair.state(1), 2);
        Check.due("no update", scene.pair.messages(), 0);
        scene.pair.link(true);
        scene.ticks(1);
        Check.due("contact: 0", scene.pair.state(0), 1);
        Check.due("contact: 1", scene.pair.state(1), 1);
        Check.due("an update", scene.pair.messages(), 1);
    }

    private static void contactNeedsBothServers() {
        for (int server = 0; server < 2; server++) {
            Scene scene = new Scene();
            scene.lend(0, 1 - server);
            scene.pair.stop(server);
            scene.ticks(1);
            Check.due("its partner is stopped", scene.pair.state(1 - server), 2);
            Check.due("no update", scene.pair.messages(), 0);

            scene = new Scene();
            scene.pair.stop(server);
            scene.pair.link(false);
            scene.ticks(1);
            scene.pair.link(true);
            scene.ticks(1);
            Check.due("stopped, though the link is mended", scene.pair.state(1 - server), 2);
        }
    }

    private static void contactWithOneThatRecovers() {
        for (int server = 0; server < 2; server++) {
            Scene scene = new Scene();
            scene.lend(0, 1 - server);
            scene.pair.stop(server);
            scene.pair.start(server);
            scene.ticks(1);
            Check.due("recovering is not stopped", scene.pair.state(1 - server), 1);
            Check.due("an update and a demand", scene.pair.messages(), 2);
            scene.pair.link(false);
            scene.ticks(1);
            Check.due("nothing new without the link", scene.pair.messages(), 2);
            Check.due("no contact", scene.pair.state(1 - server), 2);
        }
    }

    private static void everyWayToBecomeFree() {
        Check.about("a client (-1 while it is FREE); the times UNTIL, ACKED and KNOWN (0 while it is FREE)");
        Scene scene = new Scene();
        scene.lend(3, 0);
        scene.goodTicks(1);
        scene.lend(3, 1);
        scene.goodTicks(1);
        Check.due("before, 0", scene.record(0, 0), "1 3 7 21 22 1 1 0");
        Check.due("before, 1", scene.record(1, 0), "1 3 7 22 21 1 1 0");
        scene.ticks(6);
        Check.due("over, 0", scene.record(0, 0), "2 3 7 21 22 1 2 1");
        scene.pass(Scene.UPDATE, 1);
        Check.due("by an update that is OVER", scene.record(1, 0), "0 -1 0 0 0 1 2 0");
        scene.pass(Scene.ACKNOWLEDGEMENT, 0);
        Check.due("by an acknowledgement", scene.record(0, 0), "0 -1 0 0 0 1 2 0");

        scene = new Scene();
        scene.lend(3, 0);
        scene.pair.stop(0);
        scene.ticks(7);
        scene.pair.start(0);
        scene.goodTicks(2);
        Check.due("by an update that is FREE", scene.record(0, 0), "0 -1 0 0 0 0 1 0");
    }

    private static void serialsGrowByOne() {
        Check.about("a SERIAL, 0 at first, which grows by 1 whenever this server CHANGES the record");
        Scene scene = new Scene();
        Check.due("at first", scene.pair.entry(0, 0, Scene.SERIAL), 0);
        scene.lend(0, 0);
        Check.due("lent", scene.pair.entry(0, 0, Scene.SERIAL), 1);
        scene.lend(0, 0);
        Check.due("lent for longer", scene.pair.entry(0, 0, Scene.SERIAL), 2);
        scene.giveBack(0, 0);
        Check.due("given back", scene.pair.entry(0, 0, Scene.SERIAL), 3);
        scene.goodTicks(1);
        Check.due("freed by an acknowledgement", scene.record(0, 0), "0 -1 0 0 0 1 3 0");
        scene.lend(1, 0);
        Check.due("lent again", scene.pair.entry(0, 0, Scene.SERIAL), 4);
        scene.deafTicks(6);
        Check.due("at its until", scene.pair.entry(0, 0, Scene.SERIAL), 4);
        scene.deafTicks(1);
        Check.due("after its until", scene.pair.entry(0, 0, Scene.SERIAL), 5);
        scene.deafTicks(3);
        Check.due("told three times", scene.record(0, 0), "2 1 7 0 0 2 5 1");
    }

    private static void serialsOfOthersDoNotCount() {
        Scene scene = new Scene();
        scene.lend(0, 0);
        scene.lend(0, 0);
        scene.goodTicks(1);
        Check.due("lent by an update", scene.record(1, 0), "1 0 6 0 21 1 0 0");
        scene.giveBack(0, 0);
        scene.deafTicks(6);
        scene.goodTicks(1);
        Check.due("its own end of the lease", scene.record(1, 0), "0 -1 0 0 0 1 1 0");
        scene.pair.stop(0);
        scene.pair.start(0);
        scene.goodTicks(1);
        Check.due("demanded", scene.record(1, 0), "0 -1 0 0 0 1 1 1");
    }

    private static void dirtyUntilAcknowledged() {
        Check.about("It is DIRTY from a change on until the partner has acknowledged that (not at first)");
        Scene scene = new Scene();
        Check.due("not at first", scene.pair.entry(0, 0, Scene.DIRTY), 0);
        scene.pair.ask(0, 0);
        Check.due("before the change", scene.pair.entry(0, 0, Scene.DIRTY), 0);
        scene.pair.deliver(0);
        Check.due("from the change on", scene.pair.entry(0, 0, Scene.DIRTY), 1);
        scene.ticks(1);
        Check.due("told", scene.pair.entry(0, 0, Scene.DIRTY), 1);
        scene.pass(Scene.UPDATE, 1);
        Check.due("heard", scene.pair.entry(0, 0, Scene.DIRTY), 1);
        scene.pass(Scene.ACKNOWLEDGEMENT, 0);
        Check.due("acknowledged", scene.pair.entry(0, 0, Scene.DIRTY), 0);

        scene = new Scene();
        scene.lend(0, 0);
        scene.ticks(1);
        scene.lend(0, 0);
        scene.settle();
        Check.due("acknowledged, but not that change", scene.pair.entry(0, 0, Scene.DIRTY), 1);
        scene.goodTicks(1);
        Check.due("that change", scene.pair.entry(0, 0, Scene.DIRTY), 0);
    }

    private static void recordsStay() {
        Check.about("Records stay when a server stops");
        for (int server = 0; server < 2; server++) {
            Scene scene = new Scene();
            scene.lend(0, server);
            scene.goodTicks(1);
            scene.lend(1, server);
            scene.giveBack(0, server);
            scene.pair.stop(server);
            Check.due("over", scene.record(server, server), "2 0 6 21 0 1 2 1");
            Check.due("lent", scene.record(server, server + 2), "1 1 7 0 0 1 1 1");
            scene.ticks(30);
            Check.due("over, long after", scene.record(server, server), "2 0 6 21 0 1 2 1");
            Check.due("lent, long after", scene.record(server, server + 2), "1 1 7 0 0 1 1 1");
        }
    }

    private static void clientsAtFirst() {
        Check.about("A client HOLDS an address until a time, or none (at first). It has a TICKET number, 0 at first");
        for (int time = 0; time < 5; time++) {
            Scene scene = new Scene();
            scene.ticks(time);
            for (int client = 0; client < 5; client++) {
                Check.due("client " + client, scene.client(client), "-1 0 0 0");
                Check.no("it has nothing to release", scene.pair.release(client, 0));
                Check.yes("it has released nothing", scene.pair.ask(client, 0));
                Check.due("its first ticket", scene.client(client), "-1 0 1 1");
            }
        }
    }
}
