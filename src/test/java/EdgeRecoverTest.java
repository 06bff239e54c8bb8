/** The boundary cases that UPDATE names for a RECOVERING server, and those of DEMAND: messages 4 and 6. */
final class EdgeRecoverTest {
    public static void main(String[] args) {
        updatesOfALesserSession();
        updatesOfALesserSessionOnceGot();
        freeWhileItRuns();
        overOfItsAgeWhileItRuns();
        overOfALesserAgeWhileItRuns();
        lentToTheSameWhileItRuns();
        untilWhatItWasIfItRan();
        untilOfTheUpdateIfGreater();
        theFirstUpdateMayBeLate();
        gotThenLentAtItsUntil();
        gotThenOverWhileItRuns();
        gotThenALesserAge();
        gotThenAGreaterAge();
        gotThenNeverLentAgain();
        gotThenFreeAgain();
        acknowledgesWhatItGot();
        demandsOfASet();
        demandsTellTheSession();
        demandsToEachState();
        Check.end();
    }

    /** Server 0 has just stopped and started, and server 1 has heard its first DEMAND, in the next tick. */
    private static void demand(Scene scene) {
        scene.pair.stop(0);
        scene.pair.start(0);
        scene.ticks(1);
        Check.yes("the demand", scene.pass(Scene.DEMAND, 1, 63));
        scene.loseAll();
    }

    private static boolean acknowledged(Scene scene, int address) {
        return scene.find(Scene.ACKNOWLEDGEMENT, 1, address) >= 0;
    }

    private static boolean isDemanded(Scene scene, int address) {
        scene.loseAll();
        scene.ticks(1);
        int k = scene.find(Scene.DEMAND, 1);
        return k >= 0 && (scene.pair.message(k, 3) >> address & 1) == 1;
    }

    private static void updatesOfALesserSession() {
        Check.about("If the receiver is RECOVERING: nothing, if the session is not its own");
        Scene scene = new Scene();
        scene.pair.stop(0);
        scene.pair.start(0);
        scene.goodTicks(7);
        Check.due("recovered", scene.pair.state(0), 1);
        scene.lend(0, 1);
        scene.pair.stop(0);
        scene.pair.start(0);
        scene.ticks(1);
        Check.yes("session 1 of 2 arrives", scene.pass(Scene.UPDATE, 0, 1));
        Check.due("nothing", scene.record(0, 1), "0 -1 0 0 0 0 0 0");
        Check.no("no acknowledgement", acknowledged(scene, 1));
        scene.pass(Scene.DEMAND, 1);
        scene.ticks(1);
        Check.yes("session 2 of 2 arrives", scene.pass(Scene.UPDATE, 0, 1));
        Check.due("lent", scene.record(0, 1), "1 0 13 0 29 1 0 0");
        Check.yes("an acknowledgement", acknowledged(scene, 1));
    }

    private static void updatesOfALesserSessionOnceGot() {
        Scene scene = new Scene();
        scene.lend(0, 1);
        scene.pair.stop(0);
        scene.pair.start(0);
        scene.ticks(1);
        Check.due("sent before the demand was heard", scene.message(1), "4 1 0 1 1 1");
        scene.pass(Scene.DEMAND, 1);
        scene.ticks(1);
        scene.pair.lose(1);
        Check.yes("with the session", scene.pair.deliver(2));
        Check.due("got", scene.record(0, 1), "1 0 6 0 22 1 0 0");
        scene.drop(Scene.ACKNOWLEDGEMENT, 1);
        Check.yes("without the session", scene.pair.deliver(0));
        Check.no("nothing, though it has got this address", acknowledged(scene, 1));
    }

    private static void freeWhileItRuns() {
        Check.about("nothing, if its record runs and the update is not LENT with the same client and AGE");
        for (int time = 5; time <= 7; time++) {
            Scene scene = new Scene();
            scene.lend(0, 0);
            demand(scene);
            scene.deafTicks(time - 2);
            scene.ticks(1);
            Check.due("free, of age 0", scene.message(scene.find(Scene.UPDATE, 0, 0)), "4 1 0 0 0 " + time);
            Check.yes("it arrives", scene.pass(Scene.UPDATE, 0, 0));
            Check.due("UNTIL is 6, TIME " + time, scene.record(0, 0),
                    time <= 6 ? "1 0 6 0 0 1 1 1" : "0 -1 0 0 0 0 1 0");
            Check.due("acknowledged", acknowledged(scene, 0), time > 6);
            Check.due("demanded still", isDemanded(scene, 0), time <= 6);
        }
    }

    private static void overOfItsAgeWhileItRuns() {
        for (int time = 5; time <= 7; time++) {
            Scene scene = new Scene();
            scene.lend(0, 0);
            scene.goodTicks(1);
            scene.giveBack(0, 1);
            demand(scene);
            scene.deafTicks(time - 3);
            scene.ticks(1);
            Check.due("over, of age 1", scene.message(scene.find(Scene.UPDATE, 0, 0)), "4 1 0 0 2 " + time);
            Check.yes("it arrives", scene.pass(Scene.UPDATE, 0, 0));
            Check.due("UNTIL is 6, TIME " + time, scene.record(0, 0),
                    time <= 6 ? "1 0 6 21 0 1 1 0" : "0 -1 0 0 0 1 1 0");
            Check.due("acknowledged", acknowledged(scene, 0), time > 6);
            Check.due("demanded still", isDemanded(scene, 0), time <= 6);
        }
    }

    private static void overOfALesserAgeWhileItRuns() {
        for (int time = 12; time <= 14; time++) {
            Scene scene = new Scene();
            scene.lend(0, 0);
            scene.goodTicks(1);
            scene.giveBack(0, 1);
            scene.deafTicks(5);
            scene.ticks(1);
            scene.pass(Scene.UPDATE, 0);
            Check.due("free by OVER", scene.record(0, 0), "0 -1 0 0 0 1 2 0");
            scene.loseAll();
            scene.lend(1, 0);
            demand(scene);
            scene.deafTicks(time - 9);
            scene.ticks(1);
            Check.due("over, of age 1", scene.message(scene.find(Scene.UPDATE, 0, 0)), "4 1 0 0 2 " + time);
            Check.yes("it arrives", scene.pass(Scene.UPDATE, 0, 0));
            Check.due("UNTIL is 13, TIME " + time, scene.record(0, 0),
                    time <= 13 ? "1 1 13 0 0 2 3 1" : "0 -1 0 0 0 1 3 0");
            Check.due("acknowledged", acknowledged(scene, 0), time > 13);
        }
    }

    private static void lentToTheSameWhileItRuns() {
        Scene scene = new Scene();
        scene.lend(0, 0);
        scene.goodTicks(1);
        demand(scene);
        scene.ticks(1);
        Check.due("before", scene.record(0, 0), "1 0 6 21 0 1 1 0");
        Check.yes("lent to the same, of the same age", scene.pass(Scene.UPDATE, 0, 0));
        Check.due("taken", scene.record(0, 0), "1 0 6 0 23 1 1 0");
        Check.yes("acknowledged", acknowledged(scene, 0));
        Check.no("demanded no more", isDemanded(scene, 0));
    }

    /** Server 0 has lent 0 until 8, server 1 knows of 6 and says so at 6, and the time is this one. */
    private static Scene ranUntil8(int time) {
        Scene scene = new Scene();
        scene.lend(0, 0);
        scene.ticks(1);
        scene.pass(Scene.UPDATE, 1);
        scene.loseAll();
        scene.deafTicks(1);
        scene.lend(0, 0);
        Check.due("before", scene.record(0, 0), "1 0 8 0 0 1 2 1");
        demand(scene);
        scene.deafTicks(2);
        scene.ticks(time - 5);
        Check.due("before, at the partner", scene.pair.entry(1, 0, Scene.UNTIL), 6);
        return scene;
    }

    private static void untilWhatItWasIfItRan() {
        Check.about("or LENT (but UNTIL at least what it was, if it ran)");
        for (int time = 7; time <= 9; time++) {
            Scene scene = ranUntil8(time);
            int k = scene.find(Scene.UPDATE, 0, 0);
            Check.due("sent at its until", scene.message(k), "4 1 0 0 1 6");
            Check.yes("it arrives", scene.pair.deliver(k));
            Check.due("UNTIL was 8, TIME " + time, scene.record(0, 0),
                    time <= 8 ? "1 0 8 0 26 1 2 0" : "1 0 6 0 26 1 2 0");
            Check.yes("acknowledged", acknowledged(scene, 0));
        }
    }

    private static void untilOfTheUpdateIfGreater() {
        for (int time = 0; time <= 1; time++) {
            Scene scene = new Scene();
            scene.lend(0, 0);
            scene.goodTicks(1);
            scene.deafTicks(time);
            scene.lend(0, 1);
            demand(scene);
            scene.ticks(1);
            scene.pass(Scene.UPDATE, 0, 0);
            Check.due("UNTIL was 6, the update has " + (7 + time), scene.pair.entry(0, 0, Scene.UNTIL), 7 + time);
        }
    }

    private static void theFirstUpdateMayBeLate() {
        Check.about("otherwise, if it has not GOT this address yet");
        for (int time = 6; time <= 8; time++) {
            Scene scene = new Scene();
            scene.lend(0, 1);
            demand(scene);
            scene.deafTicks(4);
            scene.ticks(time - 5);
            int k = scene.find(Scene.UPDATE, 0, 1);
            Check.due("sent at its until", scene.message(k), "4 1 0 1 1 6");
            Check.yes("it arrives", scene.pair.deliver(k));
            Check.due("its UNTIL is 6, TIME " + time, scene.record(0, 1), "1 0 6 0 26 1 0 0");
            Check.yes("acknowledged", acknowledged(scene, 1));
        }
    }

    /** Server 0 has got address 1, lent until 6, at time 2, and server 1 has not heard so. */
    private static Scene got1() {
        Scene scene = new Scene();
        scene.lend(0, 1);
        demand(scene);
        scene.ticks(1);
        scene.pass(Scene.UPDATE, 0, 1);
        scene.loseAll();
        Check.due("got", scene.record(0, 1), "1 0 6 0 22 1 0 0");
        return scene;
    }

    private static void gotThenLentAtItsUntil() {
        Check.about("If it serves, or is RECOVERING and has GOT this address: .. LENT: nothing, if the update's UNTIL "
                + "is less than TIME");
        for (int time = 5; time <= 7; time++) {
            Scene scene = got1();
            scene.deafTicks(2);
            scene.ticks(time - 4);
            int k = scene.find(Scene.UPDATE, 0, 1);
            Check.due("sent at 5", scene.message(k), "4 1 0 1 1 5");
            Check.yes("it arrives", scene.pair.deliver(k));
            Check.due("its UNTIL is 6, TIME " + time, scene.record(0, 1),
                    time <= 6 ? "1 0 6 0 25 1 0 0" : "1 0 6 0 22 1 0 0");
            Check.due("acknowledged", acknowledged(scene, 1), time <= 6);
        }
    }

    private static void gotThenOverWhileItRuns() {
        Check.about("OVER: nothing, if its record runs, otherwise it becomes FREE and acknowledges");
        for (int time = 5; time <= 7; time++) {
            Scene scene = got1();
            scene.giveBack(0, 1);
            scene.deafTicks(time - 3);
            scene.ticks(1);
            Check.due("recovering", scene.pair.state(0), 4);
            int k = scene.find(Scene.UPDATE, 0, 1);
            Check.due("over", scene.message(k), "4 1 0 1 2 " + time);
            Check.yes("it arrives", scene.pair.deliver(k));
            Check.due("UNTIL is 6, TIME " + time, scene.record(0, 1),
                    time <= 6 ? "1 0 6 0 22 1 0 0" : "0 -1 0 0 0 1 0 0");
            Check.due("acknowledged", acknowledged(scene, 1), time > 6);
        }
    }

    private static void gotThenALesserAge() {
        Check.about("nothing, if the AGE is less than that of its record");
        Scene scene = new Scene();
        demand(scene);
        scene.ticks(1);
        scene.drop(Scene.UPDATE, 0, 0);
        Check.due("free, of age 0", scene.message(scene.find(Scene.UPDATE, 0, 1)), "4 1 0 1 0 2");
        scene.lend(0, 1);
        scene.ticks(1);
        scene.pair.lose(scene.find(Scene.DEMAND, 1));
        scene.pair.deliver(scene.pair.messages() - 1);
        Check.due("lent, of age 1", scene.record(0, 1), "1 0 8 0 23 1 0 0");
        scene.drop(Scene.ACKNOWLEDGEMENT, 1);
        Check.due("the elder", scene.message(scene.find(Scene.UPDATE, 0, 1)), "4 1 0 1 0 2");
        Check.yes("arrives", scene.pass(Scene.UPDATE, 0, 1));
        Check.due("nothing", scene.record(0, 1), "1 0 8 0 23 1 0 0");
        Check.no("no acknowledgement", acknowledged(scene, 1));
    }

    private static void gotThenAGreaterAge() {
        Check.about("if the AGE is greater: nothing, if its record runs, otherwise it becomes LENT and acknowledges");
        Scene scene = new Scene();
        demand(scene);
        scene.goodTicks(1);
        Check.due("free, of age 0", scene.record(0, 1), "0 -1 0 0 0 0 0 0");
        scene.lend(0, 1);
        scene.ticks(1);
        Check.yes("lent, of age 1", scene.pass(Scene.UPDATE, 0, 1));
        Check.due("recovering", scene.pair.state(0), 4);
        Check.due("lent", scene.record(0, 1), "1 0 8 0 23 1 0 0");
        Check.yes("acknowledged", acknowledged(scene, 1));
    }

    private static void gotThenNeverLentAgain() {
        Check.about("if not, nothing (within one AGE a record is never LENT again)");
        Scene scene = new Scene();
        scene.lend(0, 1);
        demand(scene);
        scene.ticks(1);
        int elder = scene.find(Scene.UPDATE, 0, 1);
        Check.due("lent", scene.message(elder), "4 1 0 1 1 2");
        scene.giveBack(0, 1);
        scene.ticks(1);
        scene.pair.deliver(scene.pair.messages() - 1);
        Check.due("over came first", scene.record(0, 1), "0 -1 0 0 0 1 0 0");
        scene.drop(Scene.ACKNOWLEDGEMENT, 1, 1);
        Check.yes("the elder arrives", scene.pair.deliver(elder));
        Check.due("nothing", scene.record(0, 1), "0 -1 0 0 0 1 0 0");
        Check.no("no acknowledgement", acknowledged(scene, 1));
    }

    private static void gotThenFreeAgain() {
        Check.about("FREE: nothing, if its record is not FREE; otherwise it becomes FREE (of that AGE) and acknowledges");
        Scene scene = new Scene();
        demand(scene);
        for (int time = 2; time <= 3; time++) {
            scene.ticks(1);
            Check.yes("free", scene.pass(Scene.UPDATE, 0, 0));
            Check.due("free", scene.record(0, 0), "0 -1 0 0 0 0 0 0");
            Check.due("acknowledged each time", scene.message(scene.find(Scene.ACKNOWLEDGEMENT, 1, 0)),
                    "5 0 1 0 0 " + time);
            scene.loseAll();
        }
    }

    private static void acknowledgesWhatItGot() {
        Check.about("it has GOT this address, and acknowledges");
        Scene scene = new Scene();
        scene.lend(0, 1);
        scene.lend(0, 1);
        demand(scene);
        scene.ticks(1);
        scene.pass(Scene.UPDATE, 0, 1);
        scene.ticks(1);
        Check.due("of the update's serial", scene.message(scene.find(Scene.ACKNOWLEDGEMENT, 1, 1)), "5 0 1 1 2 2");
        Check.yes("it arrives", scene.pass(Scene.ACKNOWLEDGEMENT, 1, 1));
        Check.due("with the update's age and potential", scene.record(1, 1), "1 0 6 22 0 1 2 0");
        Check.due("nothing of that is the receiver's", scene.record(0, 1), "1 0 6 0 22 1 0 0");
    }

    private static void demandsOfASet() {
        Check.about("DEMAND: its records of these addresses are dirty");
        Scene scene = new Scene();
        scene.pair.stop(0);
        scene.pair.start(0);
        scene.goodTicks(2);
        scene.ticks(1);
        Check.due("of 2 to 5", scene.message(0), "6 0 1 60 0 3");
        scene.pass(Scene.UPDATE, 0, 2);
        scene.pass(Scene.UPDATE, 0, 3);
        scene.pass(Scene.ACKNOWLEDGEMENT, 1, 2);
        scene.pass(Scene.ACKNOWLEDGEMENT, 1, 3);
        int[] before = {0, 0, 0, 0, 1, 1};
        for (int address = 0; address < 6; address++) {
            Check.due("before, " + address, scene.pair.entry(1, address, Scene.DIRTY), before[address]);
        }
        Check.yes("it arrives", scene.pass(Scene.DEMAND, 1));
        int[] after = {0, 0, 1, 1, 1, 1};
        for (int address = 0; address < 6; address++) {
            Check.due("after, " + address, scene.pair.entry(1, address, Scene.DIRTY), after[address]);
        }
    }

    private static void demandsTellTheSession() {
        Check.about("DEMAND: it knows that session");
        Scene scene = new Scene();
        for (int session = 1; session <= 2; session++) {
            Check.due("address 1", scene.lend(0, 1), 1);
            scene.pair.stop(0);
            scene.pair.start(0);
            scene.ticks(1);
            Check.yes("before it is heard", scene.pass(Scene.UPDATE, 0, 1));
            Check.no("session " + (session - 1), acknowledged(scene, 1));
            Check.yes("a demand", scene.pass(Scene.DEMAND, 1));
            scene.ticks(1);
            Check.yes("after it is heard", scene.pass(Scene.UPDATE, 0, 1));
            Check.yes("session " + session, acknowledged(scene, 1));
            scene.settle();
            scene.goodTicks(6);
            Check.due("recovered", scene.pair.state(0), 1);
        }
    }

    private static void demandsToEachState() {
        Check.about("DEMAND: if the receiver serves: .. and if it is ALONE it becomes NORMAL");
        Scene scene = new Scene();
        scene.pair.stop(0);
        scene.pair.alone(1);
        scene.pair.start(0);
        scene.ticks(1);
        Check.due("alone", scene.pair.state(1), 3);
        Check.yes("it arrives", scene.pair.deliver(0));
        Check.due("normal at once", scene.pair.state(1), 1);
        Check.due("dirty", scene.pair.entry(1, 5, Scene.DIRTY), 1);

        scene = new Scene();
        scene.pair.stop(0);
        scene.pair.start(0);
        scene.ticks(1);
        scene.pair.link(false);
        scene.ticks(1);
        scene.pair.link(true);
        Check.due("interrupted", scene.pair.state(1), 2);
        Check.yes("it arrives", scene.pair.deliver(0));
        Check.due("interrupted until the tick", scene.pair.state(1), 2);
        Check.due("dirty", scene.pair.entry(1, 5, Scene.DIRTY), 1);

        scene = new Scene();
        scene.pair.stop(1);
        scene.pair.start(1);
        scene.ticks(1);
        Check.yes("it arrives", scene.pair.deliver(0));
        Check.due("normal", scene.pair.state(0), 1);
        Check.due("dirty", scene.pair.entry(0, 5, Scene.DIRTY), 1);
        Check.due("the sender's stay", scene.pair.entry(1, 5, Scene.DIRTY), 0);
    }
}
