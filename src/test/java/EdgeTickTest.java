/** The boundary cases that the paragraphs on a TICK name (promise 2). */
final class EdgeTickTest {
    public static void main(String[] args) {
        threeOrFourAgo();
        eachMessageOfThreeOrFourAgo();
        clientsAtTheirUntil();
        waitingGoesOn();
        normalAndInterrupted();
        recoveryAfterSixOrSeven();
        recoveryOfFiveOrSix();
        recoveryWithoutContact();
        leasesAtTheirUntil();
        leasesOfThoseThatDoNotServe();
        thePartsOfATickInOrder();
        recoveredInTheSameTick();
        noneToThreeDirty();
        thePotential();
        noUpdatesButFromNormal();
        demandsOfWhatIsMissing();
        noDemandWhenAllAreGot();
        serverZeroFirst();
        Check.end();
    }

    private static void threeOrFourAgo() {
        Check.about("Messages that were sent more than 3 ago vanish");
        for (int sent = 0; sent <= 2; sent++) {
            Scene scene = new Scene();
            scene.ticks(sent);
            scene.pair.ask(0, 0);
            for (int ago = 1; ago <= 5; ago++) {
                scene.ticks(1);
                Check.due("sent at " + sent + ", " + ago + " ago", scene.pair.messages(), ago <= 3 ? 1 : 0);
            }
            Check.no("none to deliver", scene.pair.deliver(0));
        }
    }

    private static void eachMessageOfThreeOrFourAgo() {
        Scene scene = new Scene();
        for (int client = 0; client < 3; client++) {
            scene.lend(client, 0);
        }
        scene.pair.stop(1);
        scene.pair.start(1);
        scene.ticks(1);
        scene.pass(Scene.DEMAND, 0);
        scene.loseAll();
        scene.ticks(1);
        scene.pass(Scene.UPDATE, 1, 0);
        scene.pair.ask(3, 0);
        scene.pass(Scene.ASK, 0);
        scene.pair.ask(2, 0);
        scene.pass(Scene.ASK, 0);
        scene.pair.ask(4, 1);
        scene.pair.release(1, 0);
        Check.due("one of each kind", scene.pair.messages(), 7);
        scene.pair.link(false);
        scene.ticks(3);
        boolean[] there = new boolean[7];
        for (int k = 0; k < 7; k++) {
            Check.due("3 ago", scene.pair.message(k, 5), 2);
            there[scene.pair.message(k, 0)] = true;
        }
        for (int kind = 0; kind < 7; kind++) {
            Check.yes("kind " + kind, there[kind]);
        }
        scene.ticks(1);
        Check.due("4 ago", scene.pair.messages(), 0);
    }

    private static void clientsAtTheirUntil() {
        Check.about("A client that holds an address until less than TIME holds none");
        Scene scene = new Scene();
        scene.lend(0, 0);
        scene.deafTicks(1);
        scene.lend(1, 0);
        scene.deafTicks(5);
        Check.due("until 6 at 6", scene.client(0), "0 6 1 0");
        scene.deafTicks(1);
        Check.due("until 6 at 7", scene.client(0), "-1 0 1 0");
        Check.due("until 7 at 7", scene.client(1), "2 7 1 0");
        scene.deafTicks(1);
        Check.due("until 7 at 8", scene.client(1), "-1 0 1 0");
        Check.no("it has none to release", scene.pair.release(1, 0));
        Check.yes("it has released none", scene.pair.ask(1, 0));
    }

    private static void waitingGoesOn() {
        Scene scene = new Scene();
        scene.lend(0, 0);
        scene.pair.ask(0, 1);
        scene.deafTicks(7);
        Check.due("it waits, and holds none", scene.client(0), "-1 0 2 1");
    }

    private static void normalAndInterrupted() {
        Check.about("If it is NORMAL and there is no contact, it becomes INTERRUPTED; if INTERRUPTED and there is, NORMAL");
        Scene scene = new Scene();
        scene.pair.link(false);
        scene.pair.link(true);
        scene.ticks(1);
        Check.due("cut and mended between ticks", scene.pair.state(0), 1);
        scene.pair.link(false);
        Check.due("before the tick", scene.pair.state(0), 1);
        scene.ticks(1);
        Check.due("after the tick", scene.pair.state(0), 2);
        scene.pair.link(true);
        scene.pair.link(false);
        scene.ticks(1);
        Check.due("mended and cut between ticks", scene.pair.state(1), 2);
        scene.pair.link(true);
        Check.due("before the tick", scene.pair.state(1), 2);
        scene.ticks(1);
        Check.due("after the tick", scene.pair.state(1), 1);
    }

    /** Server 0 starts at this time, and has got all in the four ticks after. */
    private static Scene gotAll(int since) {
        Scene scene = new Scene();
        scene.pair.stop(0);
        scene.ticks(since);
        scene.pair.start(0);
        scene.goodTicks(4);
        return scene;
    }

    private static void recoveryAfterSixOrSeven() {
        Check.about("if RECOVERING and there is, and it has got all addresses, and TIME is greater than SINCE + 6, NORMAL");
        for (int since = 0; since <= 5; since += 5) {
            Scene scene = gotAll(since);
            scene.ticks(1);
            Check.due("SINCE + 5", scene.pair.state(0), 4);
            scene.ticks(1);
            Check.due("SINCE + 6", scene.pair.state(0), 4);
            Check.due("TIME", scene.pair.tick(), since + 7);
            Check.due("SINCE + 7", scene.pair.state(0), 1);
        }
    }

    private static void recoveryOfFiveOrSix() {
        Scene scene = new Scene();
        scene.pair.stop(0);
        scene.pair.start(0);
        scene.goodTicks(3);
        scene.ticks(1);
        scene.pass(Scene.UPDATE, 0, 4);
        scene.deafTicks(4);
        scene.ticks(1);
        Check.due("it has got five", scene.message(0), "6 0 1 32 0 9");
        Check.due("five of six", scene.pair.state(0), 4);
        Check.yes("the sixth", scene.pass(Scene.UPDATE, 0, 5));
        Check.due("before the tick", scene.pair.state(0), 4);
        scene.ticks(1);
        Check.due("six of six", scene.pair.state(0), 1);
    }

    private static void recoveryWithoutContact() {
        Scene scene = gotAll(0);
        scene.pair.link(false);
        scene.ticks(6);
        Check.due("no contact", scene.pair.state(0), 4);
        Check.due("its partner", scene.pair.state(1), 2);
        scene.pair.link(true);
        Check.due("before the tick", scene.pair.state(0), 4);
        scene.ticks(1);
        Check.due("contact", scene.pair.state(0), 1);
    }

    private static void leasesAtTheirUntil() {
        Check.about("If it serves, each record that is LENT with UNTIL less than TIME is CHANGED: OVER");
        Scene scene = new Scene();
        scene.lend(0, 0);
        scene.goodTicks(1);
        scene.lend(1, 0);
        scene.deafTicks(5);
        Check.due("until 6 at 6", scene.record(0, 0), "1 0 6 21 0 1 1 0");
        Check.due("until 6 at 6, at the partner", scene.record(1, 0), "1 0 6 0 21 1 0 0");
        scene.deafTicks(1);
        Check.due("until 6 at 7", scene.record(0, 0), "2 0 6 21 0 1 2 1");
        Check.due("until 6 at 7, at the partner", scene.record(1, 0), "2 0 6 0 21 1 1 1");
        Check.due("until 7 at 7", scene.record(0, 2), "1 1 7 0 0 1 1 1");
        scene.deafTicks(1);
        Check.due("until 7 at 8", scene.record(0, 2), "2 1 7 0 0 1 2 1");
        Check.due("over already", scene.record(0, 0), "2 0 6 21 0 1 2 1");
    }

    private static void leasesOfThoseThatDoNotServe() {
        Scene scene = new Scene();
        scene.lend(0, 0);
        scene.pair.stop(0);
        scene.ticks(7);
        Check.due("stopped", scene.record(0, 0), "1 0 6 0 0 1 1 1");
        scene.pair.start(0);
        scene.ticks(2);
        Check.due("recovering", scene.record(0, 0), "1 0 6 0 0 1 1 1");

        scene = new Scene();
        scene.lend(0, 0);
        scene.lend(1, 1);
        scene.pair.link(false);
        scene.ticks(7);
        Check.due("interrupted", scene.record(0, 0), "2 0 6 0 0 1 2 1");
        Check.due("interrupted, server 1", scene.record(1, 1), "2 1 6 0 0 1 2 1");

        scene = new Scene();
        scene.lend(0, 0);
        scene.pair.stop(1);
        scene.pair.alone(0);
        scene.ticks(6);
        Check.due("alone, at its until", scene.record(0, 0), "1 0 6 0 0 1 1 1");
        scene.ticks(1);
        Check.due("alone, after its until", scene.record(0, 0), "2 0 6 0 0 1 2 1");
    }

    private static void thePartsOfATickInOrder() {
        Check.about("Then for server 0, then 1, if it is not STOPPED: 1. 2. 3.");
        Scene scene = new Scene();
        scene.lend(0, 0);
        scene.deafTicks(6);
        scene.ticks(1);
        Check.due("over before it is told", scene.message(0), "4 0 1 0 2 7");

        scene = new Scene();
        scene.lend(0, 0);
        scene.pair.link(false);
        scene.ticks(6);
        scene.pair.link(true);
        scene.ticks(1);
        Check.due("normal before it tells", scene.message(0), "4 0 1 0 2 7");
        Check.due("once", scene.pair.messages(), 1);
        scene.pair.link(false);
        scene.ticks(1);
        Check.due("interrupted before it would tell", scene.pair.messages(), 1);
    }

    private static void recoveredInTheSameTick() {
        Scene scene = new Scene();
        scene.lend(0, 1);
        scene.goodTicks(1);
        scene.pair.stop(0);
        scene.pair.start(0);
        scene.goodTicks(5);
        scene.deafTicks(1);
        Check.due("recovering", scene.pair.state(0), 4);
        Check.due("lent until 6 at 7", scene.record(0, 1), "1 0 6 0 23 1 0 0");
        scene.ticks(1);
        Check.due("normal at 8", scene.pair.state(0), 1);
        Check.due("over in the same tick", scene.record(0, 1), "2 0 6 0 23 1 1 1");
        Check.due("and told", scene.message(0), "4 0 1 1 2 8");
    }

    private static void noneToThreeDirty() {
        Check.about("it sends an UPDATE of each of its two least dirty addresses (of the one, if there is one)");
        for (int dirty = 0; dirty <= 3; dirty++) {
            Scene scene = new Scene();
            for (int client = 0; client < dirty; client++) {
                scene.lend(client, 1);
            }
            scene.ticks(1);
            Check.due(dirty + " dirty", scene.pair.messages(), Math.min(2, dirty));
            for (int k = 0; k < Math.min(2, dirty); k++) {
                Check.due("update " + k, scene.message(k), "4 1 0 " + (2 * k + 1) + " 1 1");
            }
        }
        Scene scene = new Scene();
        for (int client = 0; client < 3; client++) {
            scene.lend(client, 1);
        }
        scene.deafTicks(3);
        scene.ticks(1);
        Check.due("the least again, while they are dirty", scene.message(1), "4 1 0 3 1 4");
        scene.pair.lose(0);
        scene.settle();
        scene.ticks(1);
        Check.due("the two that are dirty: 1", scene.message(0), "4 1 0 1 1 5");
        Check.due("the two that are dirty: 5", scene.message(1), "4 1 0 5 1 5");
    }

    private static void thePotential() {
        Check.about("with the potential TIME + 20");
        for (int time = 1; time <= 3; time++) {
            Scene scene = new Scene();
            scene.lend(0, 1);
            scene.deafTicks(time - 1);
            scene.goodTicks(1);
            Check.due("KNOWN", scene.record(0, 1), "1 0 6 0 " + (time + 20) + " 1 0 0");
            Check.due("ACKED", scene.record(1, 1), "1 0 6 " + (time + 20) + " 0 1 1 0");
        }
    }

    private static void noUpdatesButFromNormal() {
        Check.about("3. With contact: if it is NORMAL");
        Scene scene = new Scene();
        scene.lend(0, 1);
        scene.pair.stop(0);
        scene.pair.alone(1);
        scene.ticks(1);
        Check.due("alone without contact", scene.pair.messages(), 0);
        scene.pair.start(0);
        scene.ticks(1);
        Check.due("alone with contact: the demand alone", scene.pair.messages(), 1);
        Check.due("the demand", scene.message(0), "6 0 1 63 0 2");
        Check.due("dirty", scene.pair.entry(1, 1, Scene.DIRTY), 1);

        scene = new Scene();
        scene.lend(0, 0);
        scene.pair.stop(0);
        scene.pair.start(0);
        scene.ticks(1);
        Check.due("recovering: the demand alone", scene.pair.messages(), 1);
        Check.due("dirty", scene.pair.entry(0, 0, Scene.DIRTY), 1);

        scene = new Scene();
        scene.lend(0, 0);
        scene.pair.stop(1);
        scene.ticks(1);
        Check.due("the partner is stopped", scene.pair.messages(), 0);
    }

    private static void demandsOfWhatIsMissing() {
        Check.about("if it is RECOVERING and has not got all, a DEMAND of those that it has not got, with its session");
        Scene scene = new Scene();
        scene.pair.stop(1);
        scene.pair.start(1);
        scene.ticks(1);
        Check.due("all are missing", scene.message(0), "6 1 0 63 0 1");
        scene.settle();
        scene.ticks(1);
        scene.pass(Scene.UPDATE, 1, 1);
        scene.loseAll();
        scene.ticks(1);
        Check.due("all but 1", scene.message(scene.find(Scene.DEMAND, 0)), "6 1 0 61 0 3");
        scene.settle();
        scene.ticks(1);
        Check.due("2 to 5", scene.message(scene.find(Scene.DEMAND, 0)), "6 1 0 60 0 4");
        scene.settle();
        scene.goodTicks(1);
        Check.due("none since", scene.pair.messages(), 0);
        scene.ticks(1);
        Check.due("all are got", scene.find(Scene.DEMAND, 0), -1);
    }

    private static void noDemandWhenAllAreGot() {
        Scene scene = gotAll(0);
        scene.ticks(1);
        Check.due("none is sent", scene.pair.messages(), 0);
        Check.due("recovering", scene.pair.state(0), 4);

        scene = new Scene();
        scene.pair.stop(0);
        scene.pair.start(0);
        scene.pair.link(false);
        scene.ticks(1);
        Check.due("none without contact", scene.pair.messages(), 0);
        scene.pair.link(true);
        scene.ticks(1);
        Check.due("contact", scene.message(0), "6 0 1 63 0 2");
    }

    private static void serverZeroFirst() {
        Check.about("Then for server 0, then 1");
        Scene scene = new Scene();
        scene.lend(0, 1);
        scene.lend(1, 1);
        scene.lend(2, 0);
        scene.ticks(1);
        Check.due("server 0", scene.message(0), "4 0 1 0 1 1");
        Check.due("server 1", scene.message(1), "4 1 0 1 1 1");
        Check.due("server 1 again", scene.message(2), "4 1 0 3 1 1");
        Check.due("no other", scene.pair.messages(), 3);
    }
}
