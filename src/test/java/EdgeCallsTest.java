import java.util.function.Predicate;

/** The boundary cases that the promises 1 to 10 name, and that a refused call changes nothing that can be seen. */
final class EdgeCallsTest {
    private static final int[] NO_SERVER = {-1, 2, 3, Integer.MIN_VALUE, Integer.MAX_VALUE};
    private static final int[] NO_CLIENT = {-1, 5, 6, Integer.MIN_VALUE, Integer.MAX_VALUE};

    public static void main(String[] args) {
        aNewObject();
        askByTheLeastAndGreatest();
        askByNoneOrOfNone();
        askAfterARelease();
        askAfterTheLatestRelease();
        askChangesNothingElse();
        releaseByNoneOrToNone();
        releaseOfNothing();
        releaseEndsWaiting();
        deliverAndLoseOfNone();
        deliverAndLoseTheLast();
        deliverToAStoppedServer();
        deliverFromAStoppedServer();
        stopOfNone();
        stopInEachState();
        stopTakesMessagesBetweenServers();
        startOfNone();
        startInEachState();
        startWithoutTheLink();
        startAgainIsRefused();
        aloneOfNone();
        aloneInEachState();
        aloneAgainIsRefused();
        linkTwice();
        Check.end();
    }

    /** The call answers false, and nothing that can be seen has changed. */
    private static void refused(String what, Scene scene, Predicate<Counted> call) {
        String before = scene.all();
        Check.no(what, call.test(scene.pair));
        Check.due(what + ", changing nothing", scene.all(), before);
    }

    /** Each state that a server is in after some calls, told by its number; of server 0, server 1's follows from it. */
    private static Scene inState(int state) {
        Scene scene = new Scene();
        scene.lend(0, 0);
        scene.lend(1, 1);
        switch (state) {
            case 0:
                scene.pair.stop(0);
                break;
            case 2:
                scene.pair.link(false);
                scene.ticks(1);
                scene.pair.link(true);
                break;
            case 3:
                scene.pair.stop(1);
                scene.pair.alone(0);
                break;
            case 4:
                scene.pair.stop(0);
                scene.pair.start(0);
                scene.ticks(1);
                break;
            default:
                scene.ticks(1);
                break;
        }
        Check.due("the state", scene.pair.state(0), state);
        return scene;
    }

    private static void aNewObject() {
        Check.about("As told: both NORMAL, all addresses FREE, no client holds any, no message");
        Scene scene = new Scene();
        StringBuilder due = new StringBuilder();
        for (int server = 0; server < 2; server++) {
            due.append("server 1").append(" | 0 -1 0 0 0 0 0 0".repeat(6)).append('\n');
        }
        due.append("client -1 0 0 0\n".repeat(5));
        Check.due("a new object", scene.seen(), due.toString());
        Check.due("no message", scene.pair.messages(), 0);
    }

    private static void askByTheLeastAndGreatest() {
        Check.about("ask: False, changing nothing, when there is no such client or server");
        int[][] pairs = {{0, 0}, {4, 0}, {0, 1}, {4, 1}};
        for (int[] pair : pairs) {
            Scene scene = new Scene();
            Check.yes("ask(" + pair[0] + ", " + pair[1] + ")", scene.pair.ask(pair[0], pair[1]));
            Check.due("its message", scene.message(0), "0 " + pair[0] + " " + pair[1] + " 1 0 0");
            Check.due("its client", scene.client(pair[0]), "-1 0 1 1");
        }
    }

    private static void askByNoneOrOfNone() {
        Scene scene = inState(1);
        for (int none : NO_CLIENT) {
            refused("ask(" + none + ", 0)", scene, x -> x.ask(none, 0));
        }
        for (int none : NO_SERVER) {
            refused("ask(0, " + none + ")", scene, x -> x.ask(0, none));
            refused("ask(" + none + ", " + none + ")", scene, x -> x.ask(none, none));
        }
    }

    private static void askAfterARelease() {
        Check.about("ask: or the client released an address less than 4 ago");
        for (int released = 0; released <= 2; released += 2) {
            for (int ago = 0; ago <= 5; ago++) {
                Scene scene = new Scene();
                scene.lend(0, 0);
                scene.deafTicks(released);
                scene.pair.release(0, 0);
                scene.ticks(ago);
                if (ago < 4) {
                    refused(ago + " ago", scene, x -> x.ask(0, 0));
                    refused(ago + " ago, of the other server", scene, x -> x.ask(0, 1));
                } else {
                    Check.yes(ago + " ago", scene.pair.ask(0, 0));
                    Check.due("the client", scene.client(0), "-1 0 2 1");
                }
                Check.yes("another client", scene.pair.ask(1, 0));
            }
        }
    }

    private static void askAfterTheLatestRelease() {
        Scene scene = new Scene();
        scene.lend(0, 0);
        scene.pair.release(0, 0);
        scene.deafTicks(4);
        scene.lend(0, 0);
        scene.deafTicks(1);
        Check.yes("it releases again at 5", scene.pair.release(0, 0));
        scene.deafTicks(3);
        refused("3 ago", scene, x -> x.ask(0, 0));
        scene.deafTicks(1);
        Check.yes("4 ago", scene.pair.ask(0, 0));
    }

    private static void askChangesNothingElse() {
        Check.about("ask: A client sends an ASK to a server: its ticket grows by 1, and it is waiting");
        Scene scene = new Scene();
        scene.lend(0, 0);
        Check.due("before", scene.client(0), "0 6 1 0");
        scene.pair.ask(0, 1);
        Check.due("it holds what it held", scene.client(0), "0 6 2 1");
        scene.pair.ask(0, 1);
        Check.due("though it is waiting", scene.client(0), "0 6 3 1");
        Check.due("the second", scene.message(1), "0 0 1 3 0 0");
    }

    private static void releaseByNoneOrToNone() {
        Check.about("release: false when there is no such client or server");
        Scene scene = inState(1);
        for (int none : NO_CLIENT) {
            refused("release(" + none + ", 0)", scene, x -> x.release(none, 0));
        }
        for (int none : NO_SERVER) {
            refused("release(0, " + none + ")", scene, x -> x.release(0, none));
        }
        Check.yes("no release: it may ask", scene.pair.ask(0, 0));
        Check.yes("release(0, 1)", scene.pair.release(0, 1));
        Check.due("to server 1", scene.pair.message(scene.pair.messages() - 1, 2), 1);
    }

    private static void releaseOfNothing() {
        Check.about("release: or it holds none");
        Scene scene = new Scene();
        refused("at first", scene, x -> x.release(0, 0));
        scene.pair.ask(0, 0);
        refused("while it waits", scene, x -> x.release(0, 0));
        scene.pair.deliver(0);
        refused("while the lease is under way", scene, x -> x.release(0, 0));
        scene.pair.deliver(0);
        scene.deafTicks(6);
        Check.due("held at its until", scene.client(0), "0 6 1 0");
        Check.yes("at its until", scene.pair.release(0, 0));
        refused("twice", scene, x -> x.release(0, 0));

        scene = new Scene();
        scene.lend(0, 0);
        scene.deafTicks(7);
        refused("after its until", scene, x -> x.release(0, 0));
        Check.yes("no release: it may ask", scene.pair.ask(0, 0));
    }

    private static void releaseEndsWaiting() {
        Check.about("release: A client holds no address any more, is not waiting, and sends a RELEASE of what it held");
        Scene scene = new Scene();
        scene.lend(0, 1);
        scene.pair.ask(0, 1);
        scene.pair.ask(0, 0);
        Check.yes("release(0, 0)", scene.pair.release(0, 0));
        Check.due("the client", scene.client(0), "-1 0 3 0");
        Check.due("the release", scene.message(2), "3 0 0 1 0 0");
    }

    private static void deliverAndLoseOfNone() {
        Check.about("deliver: False, changing nothing, when there is none. lose: false when there is none");
        Scene scene = new Scene();
        for (int k : new int[] {-1, 0, 1, 23, 24, 25, Integer.MIN_VALUE, Integer.MAX_VALUE}) {
            refused("deliver(" + k + ") of none", scene, x -> x.deliver(k));
            refused("lose(" + k + ") of none", scene, x -> x.lose(k));
        }
        scene.pair.ask(0, 0);
        scene.pair.ask(1, 0);
        for (int k : new int[] {-1, 2, 3, 23, 24, Integer.MIN_VALUE, Integer.MAX_VALUE}) {
            refused("deliver(" + k + ") of two", scene, x -> x.deliver(k));
            refused("lose(" + k + ") of two", scene, x -> x.lose(k));
        }
        scene.fillUpTo(24);
        for (int k : new int[] {-1, 24, 25}) {
            refused("deliver(" + k + ") of 24", scene, x -> x.deliver(k));
            refused("lose(" + k + ") of 24", scene, x -> x.lose(k));
        }
    }

    private static void deliverAndLoseTheLast() {
        Scene scene = new Scene();
        scene.pair.ask(0, 0);
        scene.pair.ask(1, 0);
        Check.yes("lose(1) of two", scene.pair.lose(1));
        Check.due("one is left", scene.pair.messages(), 1);
        Check.yes("lose(0) of one", scene.pair.lose(0));
        Check.due("none is left", scene.pair.messages(), 0);
        Check.due("the lost ask did nothing", scene.record(0, 0), "0 -1 0 0 0 0 0 0");
        scene.fillUpTo(24);
        Check.yes("deliver(23) of 24", scene.pair.deliver(23));
        Check.due("its answer", scene.message(23), "1 1 4 24 1 0");
        Check.yes("deliver(0) of 24", scene.pair.deliver(0));
        Check.due("its answer", scene.message(23), "1 1 4 1 1 0");
    }

    private static void deliverToAStoppedServer() {
        Check.about("deliver: Message k arrives, or vanishes if it is to a STOPPED server or as said: whether it arrived");
        for (int server = 0; server < 2; server++) {
            Scene scene = new Scene();
            scene.lend(0, server);
            scene.pair.stop(server);
            scene.pair.ask(1, server);
            scene.pair.release(0, server);
            String before = scene.record(server, server);
            Check.no("an ask", scene.pair.deliver(0));
            Check.due("it is gone", scene.pair.messages(), 1);
            Check.due("its client waits", scene.client(1), "-1 0 1 1");
            Check.no("a release", scene.pair.deliver(0));
            Check.due("it is gone", scene.pair.messages(), 0);
            Check.due("the record", scene.record(server, server), before);
            scene.pair.ask(2, 1 - server);
            Check.yes("to the other", scene.pair.deliver(0));
        }
    }

    private static void deliverFromAStoppedServer() {
        Scene scene = new Scene();
        scene.pair.ask(0, 0);
        scene.pair.deliver(0);
        scene.pair.stop(0);
        Check.yes("its lease", scene.pair.deliver(0));
        Check.due("is held", scene.client(0), "0 6 1 0");
        scene.pair.link(false);
        scene.pair.ask(1, 1);
        Check.yes("clients need no link", scene.pair.deliver(0));
        Check.yes("nor do leases", scene.pair.deliver(0));
        Check.due("is held", scene.client(1), "1 6 1 0");
    }

    private static void stopOfNone() {
        Check.about("stop: false when there is none");
        Scene scene = inState(1);
        for (int none : NO_SERVER) {
            refused("stop(" + none + ")", scene, x -> x.stop(none));
        }
    }

    private static void stopInEachState() {
        Check.about("stop: or one of the two is STOPPED or RECOVERING");
        for (int state : new int[] {1, 2}) {
            for (int server = 0; server < 2; server++) {
                Scene scene = inState(state);
                int stopped = server;
                Check.yes("stop(" + stopped + ") in " + state, scene.pair.stop(stopped));
                Check.due("its state", scene.pair.state(stopped), 0);
                Check.due("its partner's", scene.pair.state(1 - stopped), state);
            }
        }
        for (int state : new int[] {0, 3, 4}) {
            Scene scene = inState(state);
            refused("stop(0), server 0 in " + state, scene, x -> x.stop(0));
            refused("stop(1), server 0 in " + state, scene, x -> x.stop(1));
        }
        Scene scene = inState(3);
        scene.pair.start(1);
        scene.ticks(1);
        refused("stop(0), ALONE beside RECOVERING", scene, x -> x.stop(0));
        refused("stop(1), RECOVERING beside ALONE", scene, x -> x.stop(1));
    }

    private static void stopTakesMessagesBetweenServers() {
        Check.about("stop: A server becomes STOPPED, and all messages between the servers vanish");
        for (int server = 0; server < 2; server++) {
            Scene scene = new Scene();
            scene.lend(0, 0);
            scene.lend(1, 1);
            scene.pair.ask(2, 0);
            scene.ticks(1);
            scene.pass(Scene.UPDATE, 1);
            scene.pair.ask(3, 1);
            Check.due("before", scene.pair.messages(), 4);
            scene.pair.stop(server);
            Check.due("after", scene.pair.messages(), 2);
            Check.due("an ask of 0", scene.message(0), "0 2 0 1 0 0");
            Check.due("an ask of 1", scene.message(1), "0 3 1 1 0 1");
        }
    }

    private static void startOfNone() {
        Check.about("start: false when there is none");
        Scene scene = inState(0);
        for (int none : NO_SERVER) {
            refused("start(" + none + ")", scene, x -> x.start(none));
        }
    }

    private static void startInEachState() {
        Check.about("start: it is not STOPPED");
        for (int state = 1; state <= 4; state++) {
            Scene scene = inState(state);
            refused("start(0) in " + state, scene, x -> x.start(0));
        }
        Scene scene = inState(0);
        refused("start(1), its partner is STOPPED", scene, x -> x.start(1));
        Check.yes("start(0)", scene.pair.start(0));
        Check.due("RECOVERING", scene.pair.state(0), 4);
        Check.due("its partner", scene.pair.state(1), 1);
        scene = inState(3);
        Check.yes("start(1), its partner is ALONE", scene.pair.start(1));
        Check.due("its partner", scene.pair.state(0), 3);
    }

    private static void startWithoutTheLink() {
        Check.about("start: or the link is not up");
        Scene scene = inState(0);
        scene.pair.link(false);
        refused("start(0), the link is cut", scene, x -> x.start(0));
        scene.pair.link(true);
        Check.yes("start(0), the link is mended", scene.pair.start(0));
        scene.pair.link(false);
        scene.ticks(1);
        Check.due("it recovers on without the link", scene.pair.state(0), 4);
    }

    private static void startAgainIsRefused() {
        Check.about("start: SINCE now; its session grows by 1, and it has got no address; false when it is not STOPPED");
        Scene scene = new Scene();
        scene.pair.stop(0);
        scene.pair.start(0);
        scene.goodTicks(2);
        scene.ticks(1);
        refused("start(0) when two are got", scene, x -> x.start(0));
        scene.settle();
        scene.ticks(1);
        Check.due("what is got stays got", scene.message(0), "6 0 1 48 0 4");
        scene.settle();
        refused("start(0) when all are got", scene, x -> x.start(0));
        scene.ticks(2);
        Check.due("SINCE + 6", scene.pair.state(0), 4);
        scene.ticks(1);
        Check.due("SINCE + 7, SINCE stays", scene.pair.state(0), 1);
        scene.pair.stop(0);
        scene.pair.start(0);
        scene.ticks(1);
        Check.due("it has got no address", scene.message(0), "6 0 1 63 0 8");
    }

    private static void aloneOfNone() {
        Check.about("alone: false when there is none");
        Scene scene = inState(0);
        for (int none : NO_SERVER) {
            refused("alone(" + none + ")", scene, x -> x.alone(none));
        }
    }

    private static void aloneInEachState() {
        Check.about("alone: it is not NORMAL or INTERRUPTED, or its partner is not STOPPED");
        for (int state : new int[] {1, 2, 4}) {
            Scene scene = inState(state);
            refused("alone(0), none is stopped, " + state, scene, x -> x.alone(0));
            refused("alone(1), none is stopped, " + state, scene, x -> x.alone(1));
        }
        Scene scene = inState(0);
        refused("alone(0), it is STOPPED", scene, x -> x.alone(0));
        Check.due("its partner is NORMAL", scene.pair.state(1), 1);
        Check.yes("alone(1)", scene.pair.alone(1));
        Check.due("ALONE", scene.pair.state(1), 3);
        scene = inState(0);
        scene.ticks(1);
        Check.due("its partner is INTERRUPTED", scene.pair.state(1), 2);
        Check.yes("alone(1)", scene.pair.alone(1));
        Check.due("ALONE", scene.pair.state(1), 3);
        scene.pair.start(0);
        refused("alone(1), its partner is RECOVERING", scene, x -> x.alone(1));
        refused("alone(0), it is RECOVERING", scene, x -> x.alone(0));
    }

    private static void aloneAgainIsRefused() {
        Check.about("alone: A server becomes ALONE, SINCE now");
        Scene scene = new Scene();
        scene.pair.stop(0);
        scene.ticks(2);
        scene.pair.alone(1);
        for (int client = 0; client < 3; client++) {
            scene.lend(client, 1);
        }
        scene.ticks(4);
        refused("alone already", scene, x -> x.alone(1));
        scene.ticks(2);
        Check.due("SINCE + 6", scene.lend(3, 1), -1);
        scene.ticks(1);
        Check.due("SINCE + 7, SINCE stays", scene.lend(3, 1), 0);
    }

    private static void linkTwice() {
        Check.about("link: The link is cut (up false), or mended; false when it is so already");
        Scene scene = inState(1);
        refused("link(true) at first", scene, x -> x.link(true));
        String before = scene.all();
        Check.yes("link(false)", scene.pair.link(false));
        Check.due("nothing else changes", scene.all(), before);
        refused("link(false) again", scene, x -> x.link(false));
        Check.yes("link(true)", scene.pair.link(true));
        Check.due("nothing else changes", scene.all(), before);
        refused("link(true) again", scene, x -> x.link(true));
        scene.ticks(1);
        Check.due("up in the end", scene.pair.state(0), 1);
        scene = inState(0);
        Check.yes("link(false) beside a stopped server", scene.pair.link(false));
        refused("link(false) again", scene, x -> x.link(false));
        Check.yes("link(true) beside a stopped server", scene.pair.link(true));
    }
}
