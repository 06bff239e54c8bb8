/** Short runs that come to clauses of the document that chosen runs hardly ever reach, compared with the model. */
final class RareRunsTest {
    public static void main(String[] args) {
        play("release: lent to another", "a40 d0 t a11 t t d0 a21 t d1 t d4 a00 t d2 d2 r40 d2 t d1 d1 d1 d5 d0 d1");
        play("first: free by OVER, lesser age",
                "a20 d0 t t d1 t t t t t t t a20 d2 d6 t t t s0 b0 t d0 t t t t d1");
        play("acknowledgement: of LENT, acked stays", "s1 b1 t d0 a10 d0 t d1 t d4 d6 d0 d0 d0 d0");
        play("update: recovering, lent, same age, FREE", "s1 b1 t a10 d0 d0 d0 r10 t t l1 d0 t d5 d2");
        play("update: free, not free", "a01 s0 a11 d0 t a41 d0 t t b0 t d0 d0 d0 d0 d0 t a41 d0 d0 d0 d2 d0 t d0 d0 d0 "
                + "d0 d0 d0 d0 d0 t d0 l0 d0 t d0 d0 d0 d0 d0 t d1 a11 d2 a21 t t d6 d6 d1 d1 d7 d1 t d5 d1 d4 d7 t d3 "
                + "d1 d2 d4 d2 d2 d6 d0 t d0 d5");
        Check.end();
    }

    /** The words: a ask, r release, d deliver, l lose, s stop, b start, t tick, and their arguments. */
    private static void play(String clause, String run) {
        Twin twin = new Twin();
        for (String word : run.split(" ")) {
            boolean same = call(twin, word);
            Check.yes(clause + ": " + twin.told.get(twin.told.size() - 1), same);
            Check.due(clause + ": " + word, twin.difference(), "");
        }
        Check.yes("whether the run came to '" + clause + "'", twin.model.clauses.containsKey(clause));
    }

    private static boolean call(Twin twin, String word) {
        int first = word.length() > 1 ? word.charAt(1) - '0' : 0;
        int second = word.length() > 2 ? word.charAt(2) - '0' : 0;
        switch (word.charAt(0)) {
            case 'a':
                return twin.ask(first, second);
            case 'r':
                return twin.release(first, second);
            case 'd':
                return twin.deliver(first);
            case 'l':
                return twin.lose(first);
            case 's':
                return twin.stop(first);
            case 'b':
                return twin.start(first);
            default:
                return twin.tick();
        }
    }
}
