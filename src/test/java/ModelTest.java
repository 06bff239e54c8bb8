import java.util.Map;
import java.util.Random;
import java.util.TreeMap;

/**
 * Long runs of chosen calls on the program and on the model, each answer compared, and now and then all that can
 * be seen (promises 1 to 15), and no address ever held by two clients. The seeds are fixed, so every run of this
 * test is the same. A first argument sets the number of runs, a second one lists the clauses come to.
 */
final class ModelTest {
    private static final int RUNS = 4000;
    private static final int CALLS = Counted.LIMIT;
    /** One call in so many is followed by a look at all. */
    private static final int LOOKS = 10;
    private static final int[] WRONG = {Integer.MIN_VALUE, -2, -1, 5, 6, 24, 32, Integer.MAX_VALUE};

    /** Rare clauses of the document: the runs are worth little if they do not come to these. */
    private static final String[] RARE = {
        "acknowledgement: not dirty", "acknowledgement: of FREE", "acknowledgement: of LENT, acked grows",
        "acknowledgement: of LENT, acked stays", "acknowledgement: of OVER", "acknowledgement: other age",
        "acknowledgement: other serial", "alone: INTERRUPTED", "alone: NORMAL", "ask: M is acked, full",
        "ask: M is acked, lead", "ask: M is time, lead", "ask: does not serve", "ask: free of share, ALONE",
        "ask: free of the other share at once", "ask: known not long past", "ask: long past, known later, at once",
        "ask: long past, until later, at once", "ask: none, alone long", "ask: none, alone too short by one",
        "ask: pause", "ask: until stays", "deliver: no contact, kind 4", "deliver: no contact, kind 5",
        "deliver: no contact, kind 6", "deliver: to a stopped server, kind 0", "deliver: to a stopped server, kind 3",
        "demand: ALONE", "demand: INTERRUPTED", "demand: NORMAL", "denial: other ticket", "denial: taken, holding",
        "first: free by FREE, lesser age", "first: free by OVER, greater age", "first: free by OVER, lesser age",
        "first: lent, greater age", "first: lent, ran, later", "first: lent, ran, not later", "first: lent, same age",
        "first: refused, runs, FREE, lesser age, other client", "first: refused, runs, OVER, same age",
        "lease: not waiting", "lease: other ticket", "lease: taken, another", "release, waiting",
        "release: does not serve", "release: not lent", "release: over in ALONE", "send: lost, 24 there, kind 0",
        "send: lost, 24 there, kind 3", "send: lost, 24 there, kind 4", "send: lost, 24 there, kind 6",
        "start: refused, STOPPED, link false", "stop: INTERRUPTED", "stop: messages vanish", "stop: one is RECOVERING",
        "stop: one is STOPPED", "tick: alone, contact true", "tick: over in ALONE", "tick: over in INTERRUPTED",
        "tick: recovering to normal at once", "tick: recovering without contact, else ready",
        "tick: recovering, not got all, late", "tick: recovering, too early by one", "update: free, free, same age",
        "update: frees a dirty record", "update: lends a dirty record", "update: lent, greater age, OVER",
        "update: lent, same age, FREE", "update: lent, same age, OVER",
        "update: lent, same age, until stays, known stays", "update: lent, too late", "update: lesser age LENT",
        "update: lesser age OVER", "update: other session, got", "update: over, OVER, greater age",
        "update: over, runs, same age", "update: recovering, lent, too late", "update: recovering, over, LENT, same age",
        "update: recovering, over, runs, same age",
    };

    private final Random random;
    private final Twin twin = new Twin();
    /** In a hundred: messages lost, messages out of order, meddling, ticks, calls of clients, releases among these. */
    private final int loss;
    private final int disorder;
    private final int trouble;
    private final int pace;
    private final int asking;
    private final int returning;

    private ModelTest(long seed) {
        random = new Random(seed);
        loss = oneOf(0, 5, 20, 40);
        disorder = oneOf(0, 30, 100);
        trouble = oneOf(0, 2, 5, 10);
        pace = oneOf(6, 12, 20, 40);
        asking = oneOf(5, 10, 20, 40);
        returning = oneOf(0, 25, 50);
    }

    public static void main(String[] args) {
        int runs = args.length > 0 ? Integer.parseInt(args[0]) : RUNS;
        Map<String, Integer> clauses = new TreeMap<>();
        for (int seed = 0; seed < runs; seed++) {
            ModelTest test = new ModelTest(seed);
            Check.due("run " + seed, test.fault(), "");
            test.twin.model.clauses.forEach((clause, count) -> clauses.merge(clause, count, Integer::sum));
        }
        if (args.length > 1) {
            clauses.forEach((clause, count) -> System.out.println(count + "\t" + clause));
        }
        for (String clause : RARE) {
            Check.yes("whether a run came to '" + clause + "'", clauses.containsKey(clause));
        }
        Check.end();
    }

    private int oneOf(int... numbers) {
        return numbers[random.nextInt(numbers.length)];
    }

    /** The calls up to the first wrong answer, and what was wrong; empty if nothing was. */
    private String fault() {
        for (int i = 0; i < CALLS; i++) {
            boolean same = next();
            String difference = random.nextInt(LOOKS) == 0 ? twin.difference(random.nextInt(4)) : "";
            if (!same || !difference.isEmpty()) {
                return twin.told + " " + difference;
            }
            if (twin.twoHoldOne()) {
                return twin.told + " two clients hold one address";
            }
        }
        return "";
    }

    private boolean next() {
        int roll = random.nextInt(100);
        if (roll < trouble) {
            return meddle();
        }
        if (roll < trouble + pace) {
            return twin.tick();
        }
        if (random.nextInt(100) < 2) {
            return wrongCall();
        }
        if (random.nextInt(100) < asking || twin.model.messages() == 0) {
            return callOfAClient(random.nextInt(5), random.nextInt(2));
        }
        return callOfAMessage(random.nextInt(100) < disorder ? random.nextInt(twin.model.messages()) : 0);
    }

    private boolean callOfAClient(int client, int server) {
        if (random.nextInt(100) < returning) {
            return twin.release(client, server);
        }
        return twin.ask(client, server);
    }

    private boolean callOfAMessage(int k) {
        if (random.nextInt(100) < loss) {
            return twin.lose(k);
        }
        return twin.deliver(k);
    }

    private boolean meddle() {
        int server = random.nextInt(2);
        switch (random.nextInt(9)) {
            case 0:
                return twin.stop(server);
            case 1:
            case 2:
                return twin.start(server);
            case 3:
            case 4:
            case 5:
                return twin.alone(server);
            case 6:
                return twin.link(false);
            default:
                return twin.link(true);
        }
    }

    private boolean wrongCall() {
        int wrong = oneOf(WRONG);
        switch (random.nextInt(6)) {
            case 0:
                return callOfAClient(wrong, random.nextInt(2));
            case 1:
                return callOfAClient(random.nextInt(5), wrong);
            case 2:
                return callOfAMessage(wrong < 0 ? wrong : Math.max(wrong, twin.model.messages()));
            case 3:
                return twin.stop(wrong);
            case 4:
                return twin.start(wrong);
            default:
                return twin.alone(wrong);
        }
    }
}
