/** Promise 1. */
final class NewObjectTest {
    public static void main(String[] args) {
        Scene scene = new Scene();
        for (int server = 0; server < 2; server++) {
            Check.due("state " + server, scene.pair.state(server), 1);
            for (int address = 0; address < 6; address++) {
                Check.due("record " + server + " " + address, scene.record(server, address), "0 -1 0 0 0 0 0 0");
            }
        }
        for (int number = 0; number < 5; number++) {
            Check.due("client " + number, scene.client(number), "-1 0 0 0");
        }
        Check.due("messages", scene.pair.messages(), 0);
        Check.no("the link is up already", scene.pair.link(true));
        Check.due("the first tick", scene.pair.tick(), 1);
        Check.due("messages after a tick", scene.pair.messages(), 0);
        objectsAreApart();
        Check.end();
    }

    private static void objectsAreApart() {
        Scene used = new Scene();
        String fresh = used.all();
        used.lend(0, 0);
        used.ticks(2);
        used.pair.stop(0);
        Check.due("another new object", new Scene().all(), fresh);
    }
}
