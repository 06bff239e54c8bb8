/** Promise 4, and what a RELEASE does when it arrives. */
final class ReleaseTest {
    public static void main(String[] args) {
        wrongInputs();
        aReleaseIsSent();
        aWaitingClientReleases();
        fullListLosesTheRelease();
        theRecordIsOver();
        otherRecordsStay();
        whoServes();
        Check.end();
    }

    private static void wrongInputs() {
        int[][] wrong = {{-1, 0}, {5, 0}, {0, -1}, {0, 2}, {Integer.MIN_VALUE, 0}, {Integer.MAX_VALUE, 1},
            {0, Integer.MIN_VALUE}, {0, Integer.MAX_VALUE}, {1, 0}, {2, 1}};
        Scene scene = new Scene();
        scene.lend(0, 0);
        scene.pair.ask(1, 0);
        String before = scene.all();
        for (int[] pair : wrong) {
            Check.no("release(" + pair[0] + ", " + pair[1] + ")", scene.pair.release(pair[0], pair[1]));
            Check.due("changing nothing", scene.all(), before);
        }
        Check.yes("no pause after a refusal", scene.pair.ask(1, 0));
    }

    private static void aReleaseIsSent() {
        Scene scene = new Scene();
        scene.lend(0, 0);
        scene.lend(4, 0);
        scene.deafTicks(1);
        Check.yes("release(4, 1)", scene.pair.release(4, 1));
        Check.due("the client", scene.client(4), "-1 0 1 0");
        Check.due("the release", scene.message(0), "3 4 1 2 0 1");
        Check.no("twice", scene.pair.release(4, 1));
        scene.deafTicks(6);
        Check.no("after its end", scene.pair.release(0, 0));
        Check.yes("its end is no release", scene.pair.ask(0, 0));
    }

    private static void aWaitingClientReleases() {
        Scene scene = new Scene();
        scene.lend(0, 0);
        scene.pair.ask(0, 0);
        Check.yes("while it waits", scene.pair.release(0, 0));
        Check.due("it waits no more", scene.client(0), "-1 0 2 0");
        scene.settle();
        Check.due("and takes no lease", scene.client(0), "-1 0 2 0");
    }

    private static void fullListLosesTheRelease() {
        Scene scene = new Scene();
        scene.lend(0, 0);
        for (int i = 0; i < 24; i++) {
            scene.pair.ask(1, 1);
        }
        Check.yes("it is lost", scene.pair.release(0, 0));
        Check.due("the client", scene.client(0), "-1 0 1 0");
        Check.due("the last message", scene.message(23), "0 1 1 24 0 0");
        Check.no("the pause", scene.pair.ask(0, 0));
    }

    private static void theRecordIsOver() {
        Scene scene = new Scene();
        scene.lend(0, 0);
        scene.goodTicks(1);
        scene.giveBack(0, 0);
        Check.due("at the server that lent it", scene.record(0, 0), "2 0 6 21 0 1 2 1");

        scene = new Scene();
        scene.lend(0, 0);
        scene.goodTicks(1);
        scene.giveBack(0, 1);
        Check.due("at the partner", scene.record(1, 0), "2 0 6 0 21 1 1 1");
    }

    private static void otherRecordsStay() {
        Scene scene = new Scene();
        scene.lend(0, 0);
        scene.pair.release(0, 1);
        Check.yes("not lent: it arrives", scene.pair.deliver(0));
        Check.due("not lent", scene.record(1, 0), "0 -1 0 0 0 0 0 0");
        Check.due("lent there", scene.record(0, 0), "1 0 6 0 0 1 1 1");
        scene.deafTicks(7);
        Check.due("over", scene.record(0, 0), "2 0 6 0 0 1 2 1");

        scene = new Scene();
        scene.lend(0, 0);
        scene.lend(0, 0);
        scene.pair.ask(0, 0);
        scene.pair.deliver(0);
        scene.pair.release(0, 0);
        scene.pass(Scene.RELEASE, 0);
        Check.due("over, of one that was asked again", scene.record(0, 0), "2 0 6 0 0 1 4 1");
    }

    private static void whoServes() {
        Scene scene = new Scene();
        scene.lend(0, 0);
        scene.pair.link(false);
        scene.ticks(1);
        scene.giveBack(0, 0);
        Check.due("interrupted", scene.record(0, 0), "2 0 6 0 0 1 2 1");

        scene = new Scene();
        scene.lend(0, 0);
        scene.pair.stop(1);
        scene.pair.alone(0);
        scene.giveBack(0, 0);
        Check.due("alone", scene.record(0, 0), "2 0 6 0 0 1 2 1");

        scene = new Scene();
        scene.lend(0, 0);
        scene.pair.stop(0);
        scene.pair.start(0);
        scene.pair.release(0, 0);
        Check.yes("recovering: it arrives", scene.pair.deliver(0));
        Check.due("recovering", scene.record(0, 0), "1 0 6 0 0 1 1 1");
    }
}
