/** The boundary cases that LEASE, DENIAL and RELEASE name, the messages 1 to 3. */
final class EdgeAnswersTest {
    public static void main(String[] args) {
        aLeaseOfItsTicket();
        aLeaseOfALesserTicket();
        aLeaseThatIsNotWaitedFor();
        aLeaseThatIsLate();
        aLeaseInPlaceOfWhatItHeld();
        aDenialOfItsTicket();
        aDenialOfALesserTicket();
        aDenialThatIsNotWaitedFor();
        aReleaseWhileLent();
        aReleaseAtItsUntil();
        aReleaseOfWhatIsNotLent();
        aReleaseOfWhatIsLentToAnother();
        aReleaseToEachState();
        Check.end();
    }

    private static void aLeaseOfItsTicket() {
        Check.about("LEASE: if the client is waiting and it is its ticket: it is waiting no more");
        Scene scene = new Scene();
        scene.pair.ask(0, 0);
        scene.pair.deliver(0);
        Check.due("before", scene.client(0), "-1 0 1 1");
        Check.yes("it arrives", scene.pair.deliver(0));
        Check.due("after", scene.client(0), "0 6 1 0");
    }

    private static void aLeaseOfALesserTicket() {
        Scene scene = new Scene();
        scene.pair.ask(0, 0);
        scene.pair.deliver(0);
        scene.pair.ask(0, 1);
        Check.due("the lease has ticket 1", scene.message(0), "1 0 0 1 0 0");
        Check.yes("it arrives", scene.pair.deliver(0));
        Check.due("ticket 2 is waited for", scene.client(0), "-1 0 2 1");
        scene.pair.deliver(0);
        Check.yes("ticket 2 arrives", scene.pair.deliver(0));
        Check.due("it was waited for", scene.client(0), "1 6 2 0");
    }

    private static void aLeaseThatIsNotWaitedFor() {
        Scene scene = new Scene();
        scene.lend(0, 0);
        scene.pair.ask(0, 0);
        scene.pair.deliver(0);
        scene.pair.release(0, 1);
        Check.due("not waiting, the ticket is 2", scene.client(0), "-1 0 2 0");
        Check.due("the lease has ticket 2", scene.message(0), "1 0 0 2 0 0");
        Check.yes("it arrives", scene.pair.deliver(0));
        Check.due("it holds none", scene.client(0), "-1 0 2 0");
    }

    private static void aLeaseThatIsLate() {
        Check.about("and if the time in it is not less than TIME, it holds that address until then");
        for (int late = 0; late <= 3; late++) {
            Scene scene = new Scene();
            scene.pair.ask(0, 0);
            scene.pair.deliver(0);
            scene.ticks(late);
            Check.yes("it arrives " + late + " after", scene.pair.deliver(0));
            Check.due("until as it was sent", scene.client(0), "0 6 1 0");
            scene.ticks(6 - late);
            Check.due("held at 6", scene.client(0), "0 6 1 0");
            scene.ticks(1);
            Check.due("not held at 7", scene.client(0), "-1 0 1 0");
        }
        Scene scene = new Scene();
        scene.pair.ask(0, 0);
        scene.pair.deliver(0);
        scene.ticks(4);
        Check.due("4 after there is none", scene.find(Scene.LEASE, 0), -1);
        Check.due("it waits on", scene.client(0), "-1 0 1 1");
    }

    private static void aLeaseInPlaceOfWhatItHeld() {
        Check.about("in place of what it held");
        Scene scene = new Scene();
        scene.lend(0, 0);
        scene.deafTicks(2);
        scene.lend(0, 1);
        Check.due("another", scene.client(0), "1 8 2 0");
        scene.deafTicks(2);
        scene.lend(0, 1);
        Check.due("the same for longer", scene.client(0), "1 10 3 0");
        scene.deafTicks(6);
        Check.due("held until then", scene.client(0), "1 10 3 0");
        scene.pair.release(0, 1);
        Check.due("the release is of what it holds", scene.message(0), "3 0 1 1 0 10");
    }

    /** All of server 0 is lent to others, and client 3 holds address 1 until 6. */
    private static Scene noneAtServer0() {
        Scene scene = new Scene();
        for (int client = 0; client < 3; client++) {
            scene.lend(client, 0);
        }
        scene.lend(3, 1);
        return scene;
    }

    private static void aDenialOfItsTicket() {
        Check.about("DENIAL: if the client is waiting and it is its ticket: it is waiting no more");
        Scene scene = noneAtServer0();
        scene.pair.ask(3, 0);
        scene.pair.deliver(0);
        Check.due("before", scene.client(3), "1 6 2 1");
        Check.yes("it arrives", scene.pair.deliver(0));
        Check.due("after", scene.client(3), "1 6 2 0");
    }

    private static void aDenialOfALesserTicket() {
        Scene scene = noneAtServer0();
        scene.pair.ask(3, 0);
        scene.pair.deliver(0);
        scene.pair.ask(3, 1);
        Check.due("the denial has ticket 2", scene.message(0), "2 0 3 2 0 0");
        Check.yes("it arrives", scene.pair.deliver(0));
        Check.due("ticket 3 is waited for", scene.client(3), "1 6 3 1");
    }

    private static void aDenialThatIsNotWaitedFor() {
        Scene scene = noneAtServer0();
        scene.pair.ask(3, 0);
        scene.pair.deliver(0);
        scene.pair.release(3, 1);
        Check.yes("it arrives", scene.pair.deliver(0));
        Check.due("it waits for nothing", scene.client(3), "-1 0 2 0");
    }

    private static void aReleaseWhileLent() {
        Check.about("RELEASE: if the server serves and the address is LENT to the client: CHANGED: OVER (UNTIL stays)");
        Scene scene = new Scene();
        scene.lend(0, 0);
        scene.goodTicks(1);
        scene.lend(0, 1);
        scene.goodTicks(1);
        Check.due("before", scene.record(0, 0), "1 0 7 21 22 1 1 0");
        scene.pair.release(0, 0);
        Check.yes("it arrives", scene.pair.deliver(0));
        Check.due("after", scene.record(0, 0), "2 0 7 21 22 1 2 1");
        Check.due("no answer", scene.pair.messages(), 0);
    }

    private static void aReleaseAtItsUntil() {
        Scene scene = new Scene();
        scene.lend(0, 0);
        scene.deafTicks(6);
        Check.yes("at its until", scene.pair.release(0, 0));
        scene.pair.deliver(0);
        Check.due("over", scene.record(0, 0), "2 0 6 0 0 1 2 1");

        scene = new Scene();
        scene.lend(0, 0);
        scene.deafTicks(6);
        scene.pair.release(0, 0);
        scene.ticks(1);
        Check.due("over by the tick", scene.record(0, 0), "2 0 6 0 0 1 2 1");
        Check.yes("it arrives", scene.pass(Scene.RELEASE, 0));
        Check.due("OVER is not LENT", scene.record(0, 0), "2 0 6 0 0 1 2 1");
    }

    private static void aReleaseOfWhatIsNotLent() {
        Scene scene = new Scene();
        scene.lend(0, 0);
        scene.pair.release(0, 1);
        Check.yes("it arrives", scene.pair.deliver(0));
        Check.due("FREE is not LENT", scene.record(1, 0), "0 -1 0 0 0 0 0 0");
        Check.due("no answer", scene.pair.messages(), 0);
    }

    private static void aReleaseOfWhatIsLentToAnother() {
        Scene scene = new Scene();
        scene.lend(0, 0);
        scene.pair.ask(0, 0);
        scene.pair.deliver(0);
        scene.deafTicks(6);
        scene.pair.release(0, 0);
        scene.ticks(1);
        scene.pass(Scene.UPDATE, 1);
        scene.pass(Scene.ACKNOWLEDGEMENT, 0);
        Check.due("free before the release arrives", scene.record(0, 0), "0 -1 0 0 0 1 3 0");
        Check.due("lent to another", scene.lend(1, 0), 0);
        String before = scene.record(0, 0);
        Check.yes("it arrives", scene.pass(Scene.RELEASE, 0));
        Check.due("it is not lent to that client", scene.record(0, 0), before);
    }

    private static void aReleaseToEachState() {
        Scene scene = new Scene();
        scene.lend(0, 0);
        scene.pair.link(false);
        scene.ticks(1);
        scene.pair.release(0, 0);
        Check.yes("interrupted: it arrives", scene.pair.deliver(0));
        Check.due("interrupted", scene.record(0, 0), "2 0 6 0 0 1 2 1");

        scene = new Scene();
        scene.lend(0, 0);
        scene.pair.stop(1);
        scene.pair.alone(0);
        scene.pair.release(0, 0);
        Check.yes("alone: it arrives", scene.pair.deliver(0));
        Check.due("alone", scene.record(0, 0), "2 0 6 0 0 1 2 1");

        scene = new Scene();
        scene.lend(0, 0);
        scene.pair.stop(0);
        scene.pair.release(0, 0);
        Check.no("stopped: it vanishes", scene.pair.deliver(0));
        Check.due("stopped", scene.record(0, 0), "1 0 6 0 0 1 1 1");
        Check.due("it is gone", scene.pair.messages(), 0);

        scene = new Scene();
        scene.lend(0, 0);
        scene.pair.stop(0);
        scene.pair.start(0);
        scene.pair.release(0, 0);
        Check.yes("recovering: it arrives", scene.pair.deliver(0));
        Check.due("recovering", scene.record(0, 0), "1 0 6 0 0 1 1 1");
    }
}
