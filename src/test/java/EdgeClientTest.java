/** The boundary cases that ASK, LEASE, DENIAL and RELEASE name, the messages 0 to 3. */
final class EdgeClientTest {
    public static void main(String[] args) {
        theLeastLentToTheClient();
        lentAtItsUntil();
        overIsNotLent();
        theLeastFreeOfTheShare();
        notTheOtherShareUnlessAlone();
        aloneForSixOrSeven();
        itsOwnShareFirst();
        untilPlusSix();
        knownPlusSix();
        theLeastThatIsLongPast();
        freeBeforeLongPast();
        noneIsLeft();
        theAgeGrows();
        theTimesAreZeroFirst();
        theLesserOfTwo();
        theGreaterOfTimeAndAcked();
        untilIsAtLeast();
        aloneLendsForTwenty();
        serversThatServe();
        onlyServersThatServeAnswer();
        Check.end();
    }

    private static void theLeastLentToTheClient() {
        Check.about("the least that is LENT to this client");
        Scene scene = new Scene();
        scene.lend(4, 1);
        scene.lend(0, 1);
        scene.lend(0, 0);
        Check.due("3 and 0 are lent to it", scene.client(0), "0 6 2 0");
        Check.due("server 1 knows of 3 alone", scene.lend(0, 1), 3);
        scene.goodTicks(1);
        Check.due("now it knows of both", scene.lend(0, 1), 0);
        Check.due("not one that is lent to another", scene.lend(4, 1), 1);
        Check.due("nor a free one", scene.lend(4, 1), 1);
    }

    private static void lentAtItsUntil() {
        for (int time = 5; time <= 7; time++) {
            Scene scene = new Scene();
            scene.lend(0, 0);
            scene.deafTicks(time);
            Check.due("at " + time + ", its until is 6", scene.lend(0, 0), time <= 6 ? 0 : 2);
            Check.due("age of 0 at " + time, scene.pair.entry(0, 0, Scene.AGE), 1);
            Check.due("kind of 0 at " + time, scene.pair.entry(0, 0, Scene.KIND), time <= 6 ? 1 : 2);
        }
    }

    private static void overIsNotLent() {
        Scene scene = new Scene();
        scene.lend(0, 0);
        scene.giveBack(0, 0);
        scene.deafTicks(4);
        Check.due("0 is OVER to this client", scene.record(0, 0), "2 0 6 0 0 1 2 1");
        Check.due("another is lent to it", scene.lend(0, 0), 2);
    }

    private static void theLeastFreeOfTheShare() {
        Check.about("else the least FREE one of its share");
        Scene scene = new Scene();
        scene.lend(0, 1);
        scene.lend(1, 1);
        scene.giveBack(0, 1);
        Check.due("1 is not FREE while it is OVER", scene.lend(2, 1), 5);
        scene.goodTicks(1);
        Check.due("1 is FREE", scene.record(1, 1), "0 -1 0 0 0 1 2 0");
        Check.due("it is the least again", scene.lend(3, 1), 1);
    }

    private static void notTheOtherShareUnlessAlone() {
        Check.about("else, if it is ALONE");
        Scene scene = new Scene();
        for (int client = 0; client < 3; client++) {
            scene.lend(client, 1);
        }
        scene.ticks(1);
        Check.due("normal", scene.lend(3, 1), -1);
        scene.pair.stop(0);
        scene.ticks(40);
        Check.due("interrupted for long", scene.pair.state(1), 2);
        Check.due("a free one of the other share", scene.lend(3, 1), -1);
        Check.due("one that is long past", scene.lend(0, 1), -1);
    }

    private static void aloneForSixOrSeven() {
        Check.about("if it is ALONE and TIME is greater than SINCE + 6");
        for (int since = 0; since <= 3; since += 3) {
            for (int passed = 5; passed <= 7; passed++) {
                Scene scene = new Scene();
                scene.pair.stop(0);
                scene.ticks(since);
                scene.pair.alone(1);
                for (int client = 0; client < 3; client++) {
                    Check.due("its share at once", scene.lend(client, 1), 2 * client + 1);
                }
                scene.ticks(passed);
                Check.due("since " + since + ", " + passed + " passed", scene.lend(3, 1), passed <= 6 ? -1 : 0);
            }
        }
    }

    private static void itsOwnShareFirst() {
        Scene scene = new Scene();
        scene.pair.stop(0);
        scene.pair.alone(1);
        scene.ticks(8);
        int[] due = {1, 3, 5, 0, 2};
        for (int client = 0; client < 5; client++) {
            Check.due("to client " + client, scene.lend(client, 1), due[client]);
        }
    }

    /** Server 1 is alone since 1, all six are not free at time 8, and 1 (client 0) is OVER with UNTIL 28. */
    private static Scene fiveLeft() {
        Scene scene = new Scene();
        scene.ticks(1);
        scene.pair.stop(0);
        scene.pair.alone(1);
        scene.ticks(7);
        for (int client = 0; client < 5; client++) {
            scene.lend(client, 1);
        }
        scene.giveBack(0, 1);
        scene.ticks(4);
        Check.due("the last free one", scene.lend(0, 1), 4);
        Check.due("the one that is over", scene.record(1, 1), "2 0 28 0 0 1 2 1");
        return scene;
    }

    private static void untilPlusSix() {
        Check.about("the least whose UNTIL + 6 and KNOWN + 6 are both less than TIME");
        for (int time = 33; time <= 35; time++) {
            Scene scene = fiveLeft();
            scene.ticks(15);
            scene.giveBack(4, 1);
            scene.ticks(time - 27);
            Check.due("UNTIL + 6 is 34, TIME " + time, scene.lend(4, 1), time <= 34 ? -1 : 0);
            Check.due("age of 1", scene.pair.entry(1, 1, Scene.AGE), 1);
        }
    }

    private static void knownPlusSix() {
        for (int time = 26; time <= 28; time++) {
            Scene scene = new Scene();
            scene.lend(0, 0);
            scene.goodTicks(1);
            scene.pair.stop(0);
            scene.pair.alone(1);
            scene.ticks(7);
            for (int client = 0; client < 5; client++) {
                scene.lend(client, 1);
            }
            Check.due("KNOWN is later", scene.record(1, 0), "2 0 6 0 21 1 1 1");
            scene.ticks(10);
            scene.giveBack(3, 1);
            scene.ticks(time - 18);
            Check.due("KNOWN + 6 is 27, TIME " + time, scene.lend(3, 1), time <= 27 ? -1 : 0);
        }
    }

    private static void theLeastThatIsLongPast() {
        Scene scene = fiveLeft();
        scene.ticks(40);
        Check.due("all are over: the least", scene.lend(3, 1), 0);
        Check.due("the next", scene.lend(2, 1), 1);
        Check.due("the next", scene.lend(1, 1), 2);
        Check.due("the next", scene.lend(4, 1), 3);
        Check.due("the next", scene.lend(0, 1), 4);
        Check.due("the last is left", scene.record(1, 5), "2 2 28 0 0 1 2 1");
    }

    private static void freeBeforeLongPast() {
        Check.about("the least FREE one, else the least whose UNTIL + 6 and KNOWN + 6");
        Scene scene = new Scene();
        scene.lend(0, 1);
        scene.giveBack(0, 1);
        scene.pair.stop(0);
        scene.pair.alone(1);
        scene.ticks(13);
        Check.due("1 is long past", scene.record(1, 1), "2 0 6 0 0 1 2 1");
        int[] due = {3, 5, 0, 2, 4};
        for (int client = 0; client < 5; client++) {
            Check.due("a free one", scene.lend(client, 1), due[client]);
        }
        scene.giveBack(0, 1);
        scene.ticks(4);
        Check.due("then 1", scene.lend(0, 1), 1);
    }

    private static void noneIsLeft() {
        Check.about("If there is none, it sends a DENIAL with the ticket");
        Scene scene = new Scene();
        for (int client = 0; client < 3; client++) {
            scene.lend(client, 0);
        }
        scene.lend(3, 1);
        scene.pair.ask(3, 0);
        String records = scene.record(0, 0) + scene.record(0, 2) + scene.record(0, 4) + scene.record(0, 1);
        Check.yes("it arrives", scene.pair.deliver(0));
        Check.due("a denial", scene.message(0), "2 0 3 2 0 0");
        Check.due("no other message", scene.pair.messages(), 1);
        Check.due("no change", scene.record(0, 0) + scene.record(0, 2) + scene.record(0, 4) + scene.record(0, 1),
                records);
        Check.due("it waits", scene.client(3), "1 6 2 1");
        scene.pair.deliver(0);
        Check.due("it waits no more, and holds what it held", scene.client(3), "1 6 2 0");
    }

    private static void theAgeGrows() {
        Check.about("if it was not LENT to this client, AGE grows by 1");
        Scene scene = new Scene();
        scene.lend(0, 0);
        Check.due("from FREE", scene.pair.entry(0, 0, Scene.AGE), 1);
        scene.lend(0, 0);
        Check.due("from LENT to it", scene.pair.entry(0, 0, Scene.AGE), 1);
        scene.giveBack(0, 0);
        scene.goodTicks(4);
        scene.lend(0, 0);
        Check.due("from FREE to the same", scene.record(0, 0), "1 0 10 0 0 2 4 1");

        scene = fiveLeft();
        scene.ticks(40);
        Check.due("0 was lent to 3", scene.record(1, 0), "2 3 28 0 0 1 2 1");
        Check.due("client 3 again", scene.lend(3, 1), 0);
        Check.due("from OVER to the same", scene.record(1, 0), "1 3 72 0 0 2 3 1");
    }

    private static void theTimesAreZeroFirst() {
        Check.about("and UNTIL, ACKED and KNOWN are 0 first");
        Scene scene = new Scene();
        scene.lend(0, 1);
        scene.goodTicks(1);
        scene.lend(0, 0);
        scene.goodTicks(1);
        Check.due("before", scene.record(1, 1), "1 0 7 21 22 1 1 0");
        scene.pair.stop(0);
        scene.pair.alone(1);
        scene.ticks(27);
        for (int client = 1; client < 5; client++) {
            scene.lend(client, 1);
        }
        Check.due("the last free one", scene.lend(0, 1), 4);
        scene.giveBack(0, 1);
        scene.ticks(4);
        Check.due("long past", scene.record(1, 1), "2 0 7 21 22 1 2 1");
        Check.due("its address", scene.lend(0, 1), 1);
        Check.due("after", scene.record(1, 1), "1 0 53 0 0 2 3 1");
    }

    /** Address 0 is lent to client 0 until 21, ACKED is 21, and the time is this one. */
    private static Scene ackedUntil21(int time) {
        Scene scene = new Scene();
        scene.lend(0, 0);
        scene.goodTicks(1);
        scene.lend(0, 0);
        Check.due("before", scene.record(0, 0), "1 0 21 21 0 1 2 1");
        scene.deafTicks(Math.min(time, 20) - 1);
        if (time > 20) {
            scene.lend(0, 0);
            scene.deafTicks(time - 20);
        }
        return scene;
    }

    private static void theLesserOfTwo() {
        Check.about("otherwise the lesser of TIME + 20 and M + 6");
        int[] due = {26, 27, 27};
        for (int time = 6; time <= 8; time++) {
            Scene scene = ackedUntil21(time);
            scene.lend(0, 0);
            Check.due("M + 6 is 27, TIME " + time, scene.client(0), "0 " + due[time - 6] + " 3 0");
            Check.due("its UNTIL", scene.pair.entry(0, 0, Scene.UNTIL), due[time - 6]);
        }
    }

    private static void theGreaterOfTimeAndAcked() {
        Check.about("M the greater of TIME and ACKED");
        int[] due = {27, 27, 28};
        for (int time = 20; time <= 22; time++) {
            Scene scene = ackedUntil21(time);
            Check.due("lent", scene.lend(0, 0), 0);
            Check.due("ACKED is 21, TIME " + time, scene.pair.entry(0, 0, Scene.UNTIL), due[time - 20]);
            Check.due("ACKED stays", scene.pair.entry(0, 0, Scene.ACKED), 21);
        }
        Scene scene = new Scene();
        scene.deafTicks(9);
        scene.lend(0, 0);
        Check.due("ACKED is 0", scene.client(0), "0 15 1 0");
    }

    private static void untilIsAtLeast() {
        Check.about("then UNTIL becomes at least");
        int[] due = {21, 21, 22};
        for (int time = 14; time <= 16; time++) {
            Scene scene = new Scene();
            scene.lend(0, 0);
            scene.goodTicks(1);
            scene.lend(0, 0);
            scene.goodTicks(1);
            Check.due("before", scene.record(1, 0), "1 0 21 0 22 1 0 0");
            scene.deafTicks(time - 2);
            Check.due("the address", scene.lend(0, 1), 0);
            Check.due("UNTIL was 21, TIME + 6 is " + (time + 6), scene.client(0), "0 " + due[time - 14] + " 3 0");
            Check.due("KNOWN stays", scene.pair.entry(1, 0, Scene.KNOWN), 22);
        }
    }

    private static void aloneLendsForTwenty() {
        Check.about("then UNTIL becomes at least TIME + 20, if the server is ALONE");
        Scene scene = new Scene();
        scene.lend(0, 0);
        scene.pair.stop(1);
        scene.lend(1, 0);
        Check.due("before it is ALONE", scene.client(1), "2 6 1 0");
        scene.pair.alone(0);
        scene.lend(1, 0);
        Check.due("at once", scene.client(1), "2 20 2 0");
        scene.ticks(3);
        scene.lend(2, 0);
        Check.due("a new one", scene.client(2), "4 23 1 0");
        scene.lend(0, 0);
        Check.due("one that ran", scene.record(0, 0), "1 0 23 0 0 1 2 1");
    }

    private static void serversThatServe() {
        Check.about("NORMAL, INTERRUPTED and ALONE servers SERVE");
        for (int server = 0; server < 2; server++) {
            Scene scene = new Scene();
            Check.due("normal", scene.lend(0, server), server);
            scene.pair.link(false);
            scene.ticks(1);
            Check.due("interrupted", scene.pair.state(server), 2);
            Check.due("it lends", scene.lend(1, server), server + 2);
            Check.due("until TIME + 6", scene.client(1), server + 2 + " 7 1 0");
            Check.due("and lends on", scene.lend(0, server), server);
            scene.pair.stop(1 - server);
            scene.pair.alone(server);
            Check.due("alone", scene.lend(2, server), server + 4);
        }
    }

    private static void onlyServersThatServeAnswer() {
        Check.about("(A server that does not serve does nothing.)");
        for (int server = 0; server < 2; server++) {
            Scene scene = new Scene();
            scene.pair.stop(server);
            scene.pair.start(server);
            scene.pair.ask(0, server);
            String before = scene.all();
            Check.yes("recovering: it arrives", scene.pair.deliver(0));
            Check.due("and does nothing", scene.all() + "message 0 0 " + server + " 1 0 0\n", before);
        }
    }
}
