/** Cards in the states that the tests begin with, and what is done to them again and again. */
final class Cards {
    static final int PIN = 1234;
    static final int OTHER = 4321;
    static final int PUK = 777777;
    static final int NO_PUK = 777778;

    /** One call whose answer is a number; a boolean counts 1 or 0. */
    interface Call {
        int on(TornTryCounter x);
    }

    private Cards() {
    }

    static TornTryCounter card() {
        return new TornTryCounter(PIN, PUK, 3, 5);
    }

    /** With as many tries of both kinds as a card can have. */
    static TornTryCounter wide() {
        return new TornTryCounter(PIN, PUK, 7, 7);
    }

    /** Page 1 is active, and page 0 is good too. */
    static TornTryCounter turned() {
        TornTryCounter x = wide();
        x.change(PIN, PIN);
        return x;
    }

    /** All ten entries are used; no try of either kind is. */
    static TornTryCounter full() {
        TornTryCounter x = wide();
        right(x, 10);
        return x;
    }

    /** As full, but on page 1, with page 0 good too. */
    static TornTryCounter turnedAndFull() {
        TornTryCounter x = turned();
        right(x, 10);
        return x;
    }

    /** After so many turns of the page, one call each. */
    static TornTryCounter old(int turns) {
        TornTryCounter x = wide();
        for (int i = 0; i < turns; i++) {
            x.change(PIN, PIN);
        }
        return x;
    }

    static void right(TornTryCounter x, int times) {
        for (int i = 0; i < times; i++) {
            x.verify(PIN);
        }
    }

    static void wrong(TornTryCounter x, int times) {
        for (int i = 0; i < times; i++) {
            x.verify(OTHER);
        }
    }

    static void wrongPuk(TornTryCounter x, int times) {
        for (int i = 0; i < times; i++) {
            x.unblock(NO_PUK, OTHER);
        }
    }

    /** How many operations a call takes. */
    static int cost(TornTryCounter x, Call call) {
        int before = x.operations();
        call.on(x);
        return x.operations() - before;
    }

    /** How many operations it takes to turn the page: eight tell that the other page was good. */
    static int costOfTurn(TornTryCounter x, int pin) {
        return cost(x, y -> y.change(pin, pin)) - 2;
    }

    /** Everything that can be asked of a card, in a row. */
    static int[] sight(TornTryCounter x) {
        return new int[] {x.in() ? 1 : 0, x.up() ? 1 : 0, x.tries(), x.puks(), x.page(),
            x.generation(), x.free(), x.operations(), x.erased(0), x.erased(1)};
    }
}
