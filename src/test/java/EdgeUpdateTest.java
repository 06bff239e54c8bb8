/** The boundary cases that UPDATE names for servers that serve, and those of ACKNOWLEDGEMENT: messages 4 and 5. */
final class EdgeUpdateTest {
    public static void main(String[] args) {
        vanishWithoutContact();
        aLesserAgeLent();
        aLesserAgeOver();
        aLesserAgeFree();
        lentAtItsUntilOfAGreaterAge();
        lentAtItsUntilOfTheSameAge();
        lentOnFree();
        lentOnOver();
        lentOnLentOfTheSameAge();
        neverLentAgainWhenFree();
        neverLentAgainWhenOver();
        overWhileItRuns();
        overOnFree();
        overOnOver();
        freeOnOver();
        freeOnFree();
        interruptedServersTakeIt();
        acknowledgedOfTheSerial();
        acknowledgedOfTheAge();
        acknowledgedWhenNotDirty();
        ackedBecomesAtLeast();
        acknowledgedOver();
        acknowledgedFree();
        aStopTakesALateDemand();
        Check.end();
    }

    /**
     * Server 0 stopped and started at 0, and at 6 it got the last of the addresses, this one, whose acknowledgement
     * was lost; a DEMAND of it and of 5 is under way since 6. The time is 7, server 0 is NORMAL, and server 1 has
     * just sent an UPDATE of this address, which is dirty there.
     */
    private static Scene lateDemand(int last, Scene scene) {
        scene.pair.stop(0);
        scene.pair.start(0);
        scene.goodTicks(1);
        for (int time = 2; time <= 5; time++) {
            scene.ticks(1);
            scene.drop(Scene.DEMAND, 1);
            scene.drop(Scene.UPDATE, 0, last);
            scene.settle();
        }
        scene.ticks(1);
        scene.pass(Scene.UPDATE, 0, last);
        scene.pass(Scene.UPDATE, 0, 5);
        scene.drop(Scene.ACKNOWLEDGEMENT, 1, last);
        scene.pass(Scene.ACKNOWLEDGEMENT, 1, 5);
        Check.due("the demand alone is left", scene.pair.messages(), 1);
        Check.due("the demand", scene.message(0), "6 0 1 " + (32 + (1 << last)) + " 0 6");
        scene.ticks(1);
        Check.due("recovered", scene.pair.state(0), 1);
        return scene;
    }

    private static Scene lateDemand() {
        return lateDemand(0, new Scene());
    }

    private static void vanishWithoutContact() {
        Check.about("The others go between servers, and vanish instead of arriving if there is no contact");
        Scene scene = new Scene();
        scene.lend(0, 0);
        scene.lend(1, 0);
        scene.ticks(1);
        scene.pair.deliver(0);
        String records = scene.record(0, 0) + "/" + scene.record(1, 2);
        scene.pair.link(false);
        Check.due("an update and an acknowledgement", scene.message(0) + "/" + scene.message(1),
                "4 0 1 2 1 1/5 1 0 0 1 1");
        Check.no("the acknowledgement", scene.pair.deliver(1));
        Check.no("the update", scene.pair.deliver(0));
        Check.due("both are gone", scene.pair.messages(), 0);
        Check.due("and did nothing", scene.record(0, 0) + "/" + scene.record(1, 2), records);

        scene = new Scene();
        scene.pair.stop(0);
        scene.pair.alone(1);
        scene.pair.start(0);
        scene.ticks(1);
        scene.pair.link(false);
        Check.no("a demand", scene.pair.deliver(0));
        Check.due("alone still", scene.pair.state(1), 3);
        Check.due("not dirty", scene.pair.entry(1, 0, Scene.DIRTY), 0);
        Check.due("it is gone", scene.pair.messages(), 0);
    }

    private static void aLesserAgeLent() {
        Check.about("nothing, if the AGE is less than that of its record");
        Scene scene = new Scene();
        scene.lend(0, 0);
        scene.ticks(1);
        scene.giveBack(0, 0);
        scene.ticks(1);
        Check.due("lent, of age 1", scene.message(0), "4 0 1 0 1 1");
        scene.pair.deliver(1);
        scene.pass(Scene.ACKNOWLEDGEMENT, 0);
        scene.lend(1, 0);
        scene.ticks(1);
        scene.pair.deliver(1);
        Check.due("age 2 came first", scene.record(1, 0), "1 1 8 0 23 2 0 0");
        Check.yes("age 1 arrives", scene.pair.deliver(0));
        Check.due("nothing", scene.record(1, 0), "1 1 8 0 23 2 0 0");
        Check.due("one acknowledgement, of serial 3", scene.message(0), "5 1 0 0 3 3");
        Check.due("no other", scene.pair.messages(), 1);
    }

    private static void aLesserAgeOver() {
        Scene scene = new Scene();
        scene.lend(0, 0);
        scene.giveBack(0, 0);
        scene.ticks(2);
        scene.pair.deliver(1);
        scene.pass(Scene.ACKNOWLEDGEMENT, 0);
        scene.lend(1, 0);
        scene.ticks(1);
        scene.pair.deliver(1);
        scene.drop(Scene.ACKNOWLEDGEMENT, 0);
        Check.due("over, of age 1", scene.message(0), "4 0 1 0 2 1");
        scene.giveBack(1, 1);
        Check.due("over, of age 2, it does not run", scene.record(1, 0), "2 1 8 0 23 2 1 1");
        Check.yes("age 1 arrives", scene.pair.deliver(0));
        Check.due("nothing", scene.record(1, 0), "2 1 8 0 23 2 1 1");
        Check.due("no acknowledgement", scene.pair.messages(), 0);
    }

    private static void aLesserAgeFree() {
        Scene scene = lateDemand();
        Check.due("address 0", scene.lend(0, 0), 0);
        scene.giveBack(0, 0);
        String before = scene.record(0, 0);
        Check.due("of age 1", before, "2 0 13 0 0 1 2 1");
        Check.yes("free, of age 0", scene.pass(Scene.UPDATE, 0, 0));
        Check.due("nothing", scene.record(0, 0), before);
        Check.due("no acknowledgement", scene.find(Scene.ACKNOWLEDGEMENT, 1), -1);
    }

    private static void lentAtItsUntilOfAGreaterAge() {
        Check.about("LENT: nothing, if the update's UNTIL is less than TIME");
        for (int time = 5; time <= 7; time++) {
            Scene scene = new Scene();
            scene.lend(0, 0);
            scene.deafTicks(4);
            scene.ticks(1);
            scene.ticks(time - 5);
            Check.due("sent at 5", scene.message(0), "4 0 1 0 1 5");
            Check.yes("it arrives at " + time, scene.pair.deliver(0));
            Check.due("its UNTIL is 6, TIME " + time, scene.record(1, 0),
                    time <= 6 ? "1 0 6 0 25 1 0 0" : "0 -1 0 0 0 0 0 0");
            Check.due("acknowledged", scene.find(Scene.ACKNOWLEDGEMENT, 0) >= 0, time <= 6);
        }
    }

    private static void lentAtItsUntilOfTheSameAge() {
        for (int time = 6; time <= 8; time++) {
            Scene scene = new Scene();
            scene.lend(0, 0);
            scene.goodTicks(1);
            scene.lend(0, 1);
            scene.lend(0, 0);
            scene.deafTicks(4);
            scene.ticks(1);
            scene.drop(Scene.UPDATE, 1);
            scene.ticks(time - 6);
            Check.due("before", scene.record(0, 0), "1 0 21 21 0 1 2 1");
            Check.due("sent at 6", scene.message(0), "4 1 0 0 1 6");
            Check.yes("it arrives at " + time, scene.pair.deliver(0));
            Check.due("its UNTIL is 7, TIME " + time, scene.record(0, 0),
                    time <= 7 ? "1 0 21 21 26 1 2 1" : "1 0 21 21 0 1 2 1");
            Check.due("acknowledged", scene.find(Scene.ACKNOWLEDGEMENT, 1) >= 0, time <= 7);
        }
    }

    private static void lentOnFree() {
        Check.about("if the AGE is greater: nothing, if its record runs, otherwise it becomes LENT and acknowledges");
        Scene scene = new Scene();
        scene.lend(2, 1);
        scene.ticks(1);
        Check.yes("it arrives", scene.pair.deliver(0));
        Check.due("greater by 1, on FREE", scene.record(0, 1), "1 2 6 0 21 1 0 0");
        Check.due("acknowledged", scene.message(0), "5 0 1 1 1 1");
    }

    private static void lentOnOver() {
        Scene scene = new Scene();
        scene.lend(0, 0);
        scene.goodTicks(1);
        scene.giveBack(0, 1);
        scene.giveBack(0, 0);
        Check.due("over at the partner", scene.record(1, 0), "2 0 6 0 21 1 1 1");
        scene.ticks(1);
        scene.pass(Scene.UPDATE, 0);
        Check.due("it runs there: nothing", scene.record(0, 0), "1 0 6 21 0 1 1 0");
        scene.loseAll();
        scene.ticks(4);
        scene.loseAll();
        scene.ticks(1);
        scene.pass(Scene.UPDATE, 0);
        Check.due("free by the partner's OVER", scene.record(0, 0), "0 -1 0 0 0 1 2 0");
        scene.loseAll();
        scene.lend(1, 0);
        scene.ticks(1);
        Check.due("over of age 1, dirty", scene.record(1, 0), "2 0 6 0 21 1 1 1");
        Check.yes("lent, of age 2", scene.pass(Scene.UPDATE, 1));
        Check.due("greater by 1, on OVER", scene.record(1, 0), "1 1 13 0 28 2 1 0");
        Check.yes("acknowledged", scene.find(Scene.ACKNOWLEDGEMENT, 0) >= 0);
    }

    private static void lentOnLentOfTheSameAge() {
        Check.about("if its record is LENT, UNTIL and KNOWN become at least those of the update (the potential)");
        Scene scene = new Scene();
        scene.lend(0, 0);
        scene.ticks(2);
        Check.yes("the second", scene.pair.deliver(1));
        Check.due("new", scene.record(1, 0), "1 0 6 0 22 1 0 0");
        Check.yes("the first", scene.pair.deliver(0));
        Check.due("a lesser potential", scene.record(1, 0), "1 0 6 0 22 1 0 0");
        Check.due("acknowledged all the same", scene.pair.messages(), 2);
        scene.ticks(1);
        scene.lend(0, 1);
        Check.due("a lease of its own", scene.record(1, 0), "1 0 9 0 22 1 1 1");
        Check.yes("the third", scene.pass(Scene.UPDATE, 1));
        Check.due("a lesser UNTIL, a greater potential", scene.record(1, 0), "1 0 9 0 23 1 1 1");
        scene.loseAll();
        scene.deafTicks(1);
        scene.lend(0, 0);
        scene.ticks(1);
        Check.yes("the fourth", scene.pass(Scene.UPDATE, 1));
        Check.due("a greater UNTIL", scene.record(1, 0), "1 0 10 0 25 1 1 1");
    }

    private static void neverLentAgainWhenFree() {
        Check.about("if not, nothing (within one AGE a record is never LENT again)");
        Scene scene = new Scene();
        scene.lend(0, 0);
        scene.ticks(1);
        scene.giveBack(0, 0);
        scene.ticks(1);
        Check.yes("over comes first", scene.pair.deliver(1));
        scene.loseAllBut(Scene.UPDATE);
        Check.due("lent, of the same age", scene.message(0), "4 0 1 0 1 1");
        Check.yes("it arrives", scene.pair.deliver(0));
        Check.due("free still", scene.record(1, 0), "0 -1 0 0 0 1 0 0");
        Check.due("no acknowledgement", scene.pair.messages(), 0);
    }

    private static void neverLentAgainWhenOver() {
        Scene scene = new Scene();
        scene.lend(0, 0);
        scene.goodTicks(1);
        scene.lend(0, 0);
        scene.ticks(1);
        scene.giveBack(0, 1);
        Check.yes("lent, of the same age", scene.pair.deliver(0));
        Check.due("over still", scene.record(1, 0), "2 0 6 0 21 1 1 1");
        Check.due("no acknowledgement", scene.pair.messages(), 0);
    }

    private static void overWhileItRuns() {
        Check.about("OVER: nothing, if its record runs, otherwise it becomes FREE and acknowledges");
        for (int time = 5; time <= 7; time++) {
            Scene scene = new Scene();
            scene.lend(0, 0);
            scene.goodTicks(1);
            scene.giveBack(0, 0);
            scene.deafTicks(2);
            scene.ticks(time - 3);
            int over = scene.find(Scene.UPDATE, 1);
            Check.due("over", scene.pair.message(over, 4), 2);
            Check.yes("it arrives at " + time, scene.pair.deliver(over));
            Check.due("UNTIL is 6, TIME " + time, scene.record(1, 0),
                    time <= 6 ? "1 0 6 0 21 1 0 0" : "0 -1 0 0 0 1 1 0");
            Check.due("acknowledged", scene.find(Scene.ACKNOWLEDGEMENT, 0) >= 0, time > 6);
        }
    }

    private static void overOnFree() {
        Scene scene = new Scene();
        scene.lend(0, 0);
        scene.giveBack(0, 0);
        scene.ticks(1);
        Check.yes("it arrives", scene.pair.deliver(0));
        Check.due("of a greater age", scene.record(1, 0), "0 -1 0 0 0 1 0 0");
        Check.due("acknowledged", scene.message(0), "5 1 0 0 2 1");
        scene.loseAll();
        scene.ticks(1);
        Check.yes("again", scene.pair.deliver(0));
        Check.due("of the same age", scene.record(1, 0), "0 -1 0 0 0 1 0 0");
        Check.due("acknowledged again", scene.message(0), "5 1 0 0 2 2");
    }

    private static void overOnOver() {
        Scene scene = new Scene();
        scene.lend(0, 0);
        scene.goodTicks(1);
        scene.deafTicks(5);
        scene.ticks(1);
        Check.due("over at both", scene.record(1, 0), "2 0 6 0 21 1 1 1");
        Check.yes("it arrives", scene.pass(Scene.UPDATE, 1));
        Check.due("not dirty any more", scene.record(1, 0), "0 -1 0 0 0 1 1 0");
        Check.yes("acknowledged", scene.pass(Scene.ACKNOWLEDGEMENT, 0));
        Check.due("free at both", scene.record(0, 0), "0 -1 0 0 0 1 2 0");
    }

    private static void freeOnOver() {
        Check.about("FREE: nothing, if its record is not FREE");
        Scene scene = new Scene();
        scene.lend(0, 1);
        lateDemand(1, scene);
        Check.due("over", scene.record(0, 1), "2 0 6 0 26 1 1 1");
        Check.yes("its update", scene.pass(Scene.UPDATE, 1, 1));
        Check.due("free at the partner", scene.record(1, 1), "0 -1 0 0 0 1 2 0");
        Check.yes("the late demand", scene.pass(Scene.DEMAND, 1));
        Check.due("dirty at the partner", scene.record(1, 1), "0 -1 0 0 0 1 2 1");
        scene.loseAll();
        scene.ticks(1);
        Check.due("free, of the same age", scene.message(scene.find(Scene.UPDATE, 0, 1)), "4 1 0 1 0 8");
        Check.yes("it arrives", scene.pass(Scene.UPDATE, 0, 1));
        Check.due("over still", scene.record(0, 1), "2 0 6 0 26 1 1 1");
        Check.due("no acknowledgement", scene.find(Scene.ACKNOWLEDGEMENT, 1), -1);
    }

    private static void freeOnFree() {
        Check.about("otherwise it becomes FREE (of that AGE) and acknowledges");
        Scene scene = lateDemand();
        Check.due("free, of the same age", scene.record(0, 0), "0 -1 0 0 0 0 0 0");
        Check.yes("it arrives", scene.pass(Scene.UPDATE, 0, 0));
        Check.due("free still", scene.record(0, 0), "0 -1 0 0 0 0 0 0");
        Check.yes("acknowledged", scene.pass(Scene.ACKNOWLEDGEMENT, 1, 0));
        Check.due("not dirty there", scene.record(1, 0), "0 -1 0 0 0 0 0 0");
    }

    private static void interruptedServersTakeIt() {
        Check.about("If it serves");
        Scene scene = new Scene();
        scene.lend(0, 0);
        scene.ticks(1);
        scene.pair.link(false);
        scene.ticks(1);
        scene.pair.link(true);
        Check.due("interrupted", scene.pair.state(1), 2);
        Check.yes("an update", scene.pair.deliver(0));
        Check.due("is taken", scene.record(1, 0), "1 0 6 0 21 1 0 0");
        Check.due("interrupted", scene.pair.state(0), 2);
        Check.yes("an acknowledgement", scene.pair.deliver(0));
        Check.due("is taken", scene.record(0, 0), "1 0 6 21 0 1 1 0");
    }

    private static void acknowledgedOfTheSerial() {
        Check.about("ACKNOWLEDGEMENT: if its record is dirty and has that AGE and SERIAL: it is not dirty");
        Scene scene = new Scene();
        scene.lend(0, 0);
        scene.ticks(1);
        scene.lend(0, 0);
        scene.pair.deliver(0);
        Check.due("of serial 1", scene.message(0), "5 1 0 0 1 1");
        Check.yes("it arrives", scene.pair.deliver(0));
        Check.due("the record has serial 2", scene.record(0, 0), "1 0 7 0 0 1 2 1");
        scene.ticks(1);
        scene.pair.deliver(0);
        Check.due("of serial 2", scene.message(0), "5 1 0 0 2 2");
        Check.yes("it arrives", scene.pair.deliver(0));
        Check.due("not dirty", scene.record(0, 0), "1 0 7 22 0 1 2 0");
    }

    private static void acknowledgedOfTheAge() {
        Scene scene = lateDemand();
        scene.pass(Scene.UPDATE, 0, 0);
        Check.due("of age 0 and serial 0", scene.message(scene.find(Scene.ACKNOWLEDGEMENT, 1)), "5 0 1 0 0 7");
        Check.due("address 0", scene.lend(0, 0), 0);
        scene.ticks(1);
        Check.yes("lent, of age 1", scene.pass(Scene.UPDATE, 1, 0));
        Check.due("serial 0, not dirty", scene.record(1, 0), "1 0 13 0 28 1 0 0");
        Check.yes("the late demand", scene.pass(Scene.DEMAND, 1));
        Check.due("serial 0, dirty", scene.record(1, 0), "1 0 13 0 28 1 0 1");
        Check.yes("it arrives", scene.pass(Scene.ACKNOWLEDGEMENT, 1, 0));
        Check.due("another age: nothing", scene.record(1, 0), "1 0 13 0 28 1 0 1");
    }

    private static void acknowledgedWhenNotDirty() {
        Scene scene = new Scene();
        scene.lend(0, 0);
        scene.ticks(2);
        scene.pair.deliver(0);
        scene.pair.deliver(0);
        Check.yes("the first", scene.pair.deliver(0));
        Check.due("not dirty", scene.record(0, 0), "1 0 6 21 0 1 1 0");
        Check.yes("the second", scene.pair.deliver(0));
        Check.due("a greater potential: nothing", scene.record(0, 0), "1 0 6 21 0 1 1 0");
    }

    private static void ackedBecomesAtLeast() {
        Check.about("if it is LENT, ACKED becomes at least the potential");
        Scene scene = new Scene();
        scene.lend(0, 0);
        scene.pair.stop(1);
        scene.pair.start(1);
        scene.goodTicks(1);
        scene.ticks(2);
        Check.yes("the elder update of 0 goes", scene.pass(Scene.UPDATE, 1, 0));
        Check.yes("and the younger one", scene.pass(Scene.UPDATE, 1, 0));
        int elder = scene.find(Scene.ACKNOWLEDGEMENT, 0, 0);
        Check.due("the elder", scene.message(elder), "5 1 0 0 1 3");
        Check.yes("the younger arrives", scene.pair.deliver(elder + 1));
        Check.due("its potential", scene.record(0, 0), "1 0 6 23 0 1 1 0");
        Check.yes("a demand of 0", scene.pass(Scene.DEMAND, 0, 63));
        Check.due("dirty again", scene.record(0, 0), "1 0 6 23 0 1 1 1");
        Check.yes("the elder arrives", scene.pass(Scene.ACKNOWLEDGEMENT, 0, 0));
        Check.due("at least", scene.record(0, 0), "1 0 6 23 0 1 1 0");
        Check.yes("a demand of 0 again", scene.pass(Scene.DEMAND, 0, 63));
        scene.loseAll();
        scene.goodTicks(1);
        Check.due("a greater one", scene.record(0, 0), "1 0 6 24 0 1 1 0");
    }

    private static void acknowledgedOver() {
        Check.about("if it is OVER, it is FREE then");
        Scene scene = new Scene();
        scene.lend(0, 0);
        scene.goodTicks(1);
        scene.deafTicks(6);
        Check.due("over", scene.record(0, 0), "2 0 6 21 0 1 2 1");
        scene.goodTicks(1);
        Check.due("free of the same age", scene.record(0, 0), "0 -1 0 0 0 1 2 0");
        Check.due("it can be lent again", scene.lend(1, 0), 0);
        Check.due("with the next age", scene.record(0, 0), "1 1 14 0 0 2 3 1");
    }

    private static void acknowledgedFree() {
        Scene scene = lateDemand();
        Check.due("dirty by a demand", scene.record(1, 0), "0 -1 0 0 0 0 0 1");
        scene.pass(Scene.UPDATE, 0, 0);
        Check.yes("acknowledged", scene.pass(Scene.ACKNOWLEDGEMENT, 1, 0));
        Check.due("not dirty, and free", scene.record(1, 0), "0 -1 0 0 0 0 0 0");
    }

    private static void aStopTakesALateDemand() {
        Check.about("stop: all messages between the servers vanish");
        for (int server = 0; server < 2; server++) {
            Scene scene = lateDemand();
            scene.pair.ask(0, 0);
            Check.due("a demand, an update and an ask", scene.pair.messages(), 3);
            Check.yes("stop(" + server + ")", scene.pair.stop(server));
            Check.due("the ask is left", scene.pair.messages(), 1);
            Check.due("the ask", scene.message(0), "0 0 0 1 0 7");
        }
    }
}
