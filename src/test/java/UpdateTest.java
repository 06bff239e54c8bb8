/** What UPDATE and ACKNOWLEDGEMENT do between servers that serve (promises 5 and 12). */
final class UpdateTest {
    public static void main(String[] args) {
        aNewLease();
        aLongerLease();
        updatesOvertake();
        aLeaseThatHasEnded();
        neverLentAgainWithinOneAge();
        aLesserAge();
        overWhileItRuns();
        overAndFree();
        acknowledgementOfAnOldSerial();
        acknowledgementOfAnOldAge();
        acknowledgementTwice();
        bothChangeOneRecord();
        interruptedServersTakeUpdates();
        updatesTellWhatWasSent();
        Check.end();
    }

    private static void aNewLease() {
        Scene scene = new Scene();
        scene.lend(3, 0);
        scene.ticks(1);
        scene.pair.deliver(0);
        Check.due("the partner's record", scene.record(1, 0), "1 3 6 0 21 1 0 0");
        Check.due("the acknowledgement", scene.message(0), "5 1 0 0 1 1");
        Check.due("not heard yet", scene.record(0, 0), "1 3 6 0 0 1 1 1");
        scene.ticks(1);
        scene.pair.deliver(0);
        Check.due("the potential is the update's", scene.record(0, 0), "1 3 6 21 0 1 1 0");
    }

    private static void aLongerLease() {
        Scene scene = new Scene();
        scene.lend(0, 0);
        scene.goodTicks(1);
        scene.lend(0, 0);
        scene.goodTicks(1);
        Check.due("UNTIL and KNOWN grow", scene.record(1, 0), "1 0 21 0 22 1 0 0");
        Check.due("ACKED grows", scene.record(0, 0), "1 0 21 22 0 1 2 0");
    }

    private static void updatesOvertake() {
        Scene scene = new Scene();
        scene.lend(0, 0);
        scene.ticks(1);
        scene.lend(0, 0);
        scene.ticks(1);
        scene.pair.deliver(1);
        Check.due("the younger", scene.record(1, 0), "1 0 7 0 22 1 0 0");
        scene.pair.deliver(0);
        Check.due("the elder", scene.record(1, 0), "1 0 7 0 22 1 0 0");
        Check.due("both are acknowledged: 2", scene.message(0), "5 1 0 0 2 2");
        Check.due("both are acknowledged: 1", scene.message(1), "5 1 0 0 1 2");
        scene.pair.deliver(1);
        Check.due("the elder serial", scene.record(0, 0), "1 0 7 0 0 1 2 1");
        scene.pair.deliver(0);
        Check.due("the younger serial", scene.record(0, 0), "1 0 7 22 0 1 2 0");
    }

    private static void aLeaseThatHasEnded() {
        Scene scene = new Scene();
        scene.lend(0, 0);
        scene.deafTicks(5);
        scene.ticks(1);
        scene.pair.link(false);
        scene.pair.link(true);
        Check.due("sent at its until", scene.message(0), "4 0 1 0 1 6");
        scene.ticks(1);
        Check.yes("it arrives", scene.pair.deliver(0));
        Check.due("too late", scene.record(1, 0), "0 -1 0 0 0 0 0 0");
        Check.due("the next one", scene.pair.messages(), 1);

        scene = new Scene();
        scene.lend(0, 0);
        scene.deafTicks(5);
        scene.ticks(1);
        scene.pair.deliver(0);
        Check.due("just in time", scene.record(1, 0), "1 0 6 0 26 1 0 0");
    }

    private static void neverLentAgainWithinOneAge() {
        Scene scene = new Scene();
        scene.lend(0, 0);
        scene.ticks(1);
        scene.giveBack(0, 0);
        scene.ticks(1);
        Check.due("the elder", scene.message(0), "4 0 1 0 1 1");
        Check.due("the younger", scene.message(1), "4 0 1 0 2 2");
        scene.pair.deliver(1);
        Check.due("free of that age", scene.record(1, 0), "0 -1 0 0 0 1 0 0");
        Check.yes("the elder arrives", scene.pair.deliver(0));
        Check.due("free still", scene.record(1, 0), "0 -1 0 0 0 1 0 0");
        Check.due("one acknowledgement", scene.pair.messages(), 1);

        scene = new Scene();
        scene.lend(0, 0);
        scene.goodTicks(1);
        scene.lend(0, 0);
        scene.ticks(1);
        scene.giveBack(0, 1);
        Check.due("over at the partner", scene.record(1, 0), "2 0 6 0 21 1 1 1");
        scene.pair.deliver(0);
        Check.due("over still", scene.record(1, 0), "2 0 6 0 21 1 1 1");
        Check.due("no acknowledgement", scene.pair.messages(), 0);
    }

    private static void aLesserAge() {
        Scene scene = new Scene();
        scene.lend(0, 0);
        scene.giveBack(0, 0);
        scene.ticks(1);
        scene.ticks(1);
        scene.pair.deliver(1);
        scene.pass(Scene.ACKNOWLEDGEMENT, 0);
        Check.due("free again", scene.record(0, 0), "0 -1 0 0 0 1 2 0");
        scene.lend(1, 0);
        scene.ticks(1);
        Check.due("the elder", scene.message(0), "4 0 1 0 2 1");
        scene.pair.deliver(1);
        Check.due("the second lease", scene.record(1, 0), "1 1 8 0 23 2 0 0");
        scene.ticks(1);
        Check.due("the elder still", scene.message(0), "4 0 1 0 2 1");
        int messages = scene.pair.messages();
        Check.yes("it arrives", scene.pair.deliver(0));
        Check.due("a lesser age", scene.record(1, 0), "1 1 8 0 23 2 0 0");
        Check.due("no acknowledgement", scene.pair.messages(), messages - 1);
    }

    private static void overWhileItRuns() {
        Scene scene = new Scene();
        scene.lend(0, 0);
        scene.goodTicks(1);
        scene.giveBack(0, 0);
        scene.goodTicks(5);
        Check.due("it runs at 6", scene.record(1, 0), "1 0 6 0 21 1 0 0");
        Check.due("over", scene.record(0, 0), "2 0 6 21 0 1 2 1");
        scene.ticks(1);
        Check.due("over at the partner", scene.record(1, 0), "2 0 6 0 21 1 1 1");
        scene.pair.deliver(0);
        Check.due("free at the partner", scene.record(1, 0), "0 -1 0 0 0 1 1 0");
        scene.settle();
        Check.due("free", scene.record(0, 0), "0 -1 0 0 0 1 2 0");
    }

    private static void overAndFree() {
        Scene scene = new Scene();
        scene.lend(0, 0);
        scene.deafTicks(6);
        scene.ticks(1);
        scene.pair.deliver(0);
        Check.due("of a greater age", scene.record(1, 0), "0 -1 0 0 0 1 0 0");
        scene.pair.deliver(0);
        Check.due("acknowledged", scene.record(0, 0), "0 -1 0 0 0 1 2 0");
        Check.due("it can be lent again", scene.lend(1, 0), 0);
        Check.due("with the next age", scene.record(0, 0), "1 1 13 0 0 2 3 1");
    }

    private static void acknowledgementOfAnOldSerial() {
        Scene scene = new Scene();
        scene.lend(0, 0);
        scene.ticks(1);
        scene.pair.deliver(0);
        scene.lend(0, 0);
        Check.yes("it arrives", scene.pass(Scene.ACKNOWLEDGEMENT, 0));
        Check.due("dirty still", scene.record(0, 0), "1 0 7 0 0 1 2 1");
    }

    private static void acknowledgementOfAnOldAge() {
        Scene scene = new Scene();
        scene.lend(0, 0);
        scene.giveBack(0, 0);
        scene.ticks(2);
        scene.pair.deliver(0);
        scene.pair.deliver(0);
        Check.due("two acknowledgements", scene.message(1), "5 1 0 0 2 2");
        scene.pair.deliver(0);
        scene.lend(1, 0);
        scene.pair.deliver(0);
        Check.due("dirty still", scene.record(0, 0), "1 1 8 0 0 2 3 1");
    }

    private static void acknowledgementTwice() {
        Scene scene = new Scene();
        scene.lend(0, 0);
        scene.ticks(2);
        scene.pair.deliver(0);
        scene.pair.deliver(0);
        scene.pair.deliver(0);
        Check.due("the first", scene.record(0, 0), "1 0 6 21 0 1 1 0");
        Check.yes("the second arrives", scene.pair.deliver(0));
        Check.due("not dirty: nothing", scene.record(0, 0), "1 0 6 21 0 1 1 0");
    }

    private static void bothChangeOneRecord() {
        Scene scene = new Scene();
        scene.lend(0, 0);
        scene.goodTicks(1);
        scene.lend(0, 1);
        Check.due("changed by the partner", scene.record(1, 0), "1 0 7 0 21 1 1 1");
        scene.lend(0, 0);
        scene.ticks(1);
        scene.pass(Scene.UPDATE, 1);
        Check.due("dirty still", scene.record(1, 0), "1 0 21 0 22 1 1 1");
        scene.pass(Scene.UPDATE, 0);
        Check.due("KNOWN beside ACKED", scene.record(0, 0), "1 0 21 21 22 1 2 1");
        scene.settle();
        Check.due("clean", scene.record(0, 0), "1 0 21 22 22 1 2 0");
        Check.due("clean at the partner", scene.record(1, 0), "1 0 21 22 22 1 1 0");
        scene.giveBack(0, 1);
        scene.lend(1, 0);
        scene.goodTicks(1);
        Check.due("over there, and it runs here", scene.record(0, 0), "1 0 21 22 22 1 2 0");
    }

    private static void interruptedServersTakeUpdates() {
        Scene scene = new Scene();
        scene.lend(0, 0);
        scene.ticks(1);
        scene.pair.link(false);
        scene.ticks(1);
        scene.pair.link(true);
        Check.due("interrupted", scene.pair.state(1), 2);
        Check.yes("it arrives", scene.pass(Scene.UPDATE, 1));
        Check.due("taken", scene.record(1, 0), "1 0 6 0 21 1 0 0");
        scene.pass(Scene.ACKNOWLEDGEMENT, 0);
        Check.due("heard", scene.record(0, 0), "1 0 6 21 0 1 1 0");
    }

    private static void updatesTellWhatWasSent() {
        Scene scene = new Scene();
        scene.lend(0, 0);
        scene.ticks(1);
        scene.lend(0, 0);
        scene.pair.deliver(0);
        Check.due("the record as it was sent", scene.record(1, 0), "1 0 6 0 21 1 0 0");
    }
}
