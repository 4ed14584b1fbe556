/**
 * "A call that is refused changes nothing." Each refused call is made on one of two cards that are
 * alike; after it everything that is done to both must go alike, what is armed and what was counted included.
 */
public final class RefusedTest {
    private static final Check CHECK = new Check("RefusedTest");
    private static final int DOWN = TornTryCounter.DOWN;
    private static final int LOCKED = TornTryCounter.LOCKED;
    private static final int FALSE = 0;
    private static final int PIN = Cards.PIN;
    private static final int OTHER = Cards.OTHER;
    private static final int PUK = Cards.PUK;
    private static final int NO_PUK = Cards.NO_PUK;

    /** What is armed before the refused call, with its mask: nothing, the next operation, later ones. */
    private static final int[][] ARMED = {{0, 0}, {1, 0}, {1, 255}, {2, 0}, {2, 255}, {3, 2}, {9, 165}, {30, 0}};

    private interface State {
        TornTryCounter make();
    }

    public static void main(String[] args) {
        whenDown();
        whenPinIsLocked();
        whenPukIsLocked();
        startWhenUp();
        armOutside();
        armBehindForty();
        asking();
        CHECK.end();
    }

    private static TornTryCounter in() {
        TornTryCounter x = Cards.card();
        Cards.wrong(x, 1);
        Cards.wrongPuk(x, 1);
        Cards.right(x, 1);
        return x;
    }

    private static TornTryCounter used() {
        TornTryCounter x = Cards.turned();
        Cards.wrong(x, 2);
        Cards.wrongPuk(x, 3);
        return x;
    }

    private static TornTryCounter down() {
        TornTryCounter x = used();
        x.cut();
        return x;
    }

    private static TornTryCounter downByATear() {
        TornTryCounter x = used();
        x.arm(6, 255);
        x.change(PIN, OTHER);
        return x;
    }

    private static TornTryCounter downAndLocked() {
        TornTryCounter x = locked();
        Cards.wrongPuk(x, 5);
        x.cut();
        return x;
    }

    private static TornTryCounter downAndFull() {
        TornTryCounter x = Cards.turnedAndFull();
        x.cut();
        return x;
    }

    private static TornTryCounter locked() {
        TornTryCounter x = Cards.card();
        Cards.wrong(x, 3);
        return x;
    }

    private static TornTryCounter lockedAndFull() {
        TornTryCounter x = Cards.card();
        Cards.right(x, 7);
        Cards.wrong(x, 3);
        return x;
    }

    private static TornTryCounter pukLocked() {
        TornTryCounter x = Cards.card();
        Cards.wrongPuk(x, 5);
        Cards.wrong(x, 1);
        return x;
    }

    private static TornTryCounter pukLockedAndIn() {
        TornTryCounter x = pukLocked();
        Cards.right(x, 1);
        return x;
    }

    private static TornTryCounter pukLockedAndFull() {
        TornTryCounter x = pukLocked();
        Cards.right(x, 4);
        return x;
    }

    private static TornTryCounter armed39() {
        TornTryCounter x = Cards.card();
        for (int i = 1; i <= 39; i++) {
            x.arm(i % 30 + 1, 0);
        }
        x.arm(0, 0);
        return x;
    }

    private static TornTryCounter armed40() {
        TornTryCounter x = armed39();
        Cards.right(x, 1);
        x.arm(3, 255);
        return x;
    }

    private static void whenDown() {
        State[] states = {RefusedTest::down, RefusedTest::downByATear, RefusedTest::downAndLocked,
            RefusedTest::downAndFull};
        for (int i = 0; i < states.length; i++) {
            String where = " when down, state " + i;
            refused("verify, right" + where, states[i], x -> x.verify(PIN), DOWN);
            refused("verify, wrong" + where, states[i], x -> x.verify(OTHER), DOWN);
            refused("change, right" + where, states[i], x -> x.change(PIN, OTHER), DOWN);
            refused("change, wrong" + where, states[i], x -> x.change(OTHER, OTHER), DOWN);
            refused("unblock, right" + where, states[i], x -> x.unblock(PUK, OTHER), DOWN);
            refused("unblock, wrong" + where, states[i], x -> x.unblock(NO_PUK, OTHER), DOWN);
            refused("cut" + where, states[i], x -> x.cut() ? 1 : 0, FALSE);
        }
    }

    private static void whenPinIsLocked() {
        State[] states = {RefusedTest::locked, RefusedTest::lockedAndFull};
        for (int i = 0; i < states.length; i++) {
            String where = " when locked, state " + i;
            refused("verify, right" + where, states[i], x -> x.verify(PIN), LOCKED);
            refused("verify, wrong" + where, states[i], x -> x.verify(OTHER), LOCKED);
            refused("change, right" + where, states[i], x -> x.change(PIN, OTHER), LOCKED);
            refused("change, wrong" + where, states[i], x -> x.change(OTHER, OTHER), LOCKED);
        }
    }

    private static void whenPukIsLocked() {
        State[] states = {RefusedTest::pukLocked, RefusedTest::pukLockedAndIn, RefusedTest::pukLockedAndFull};
        for (int i = 0; i < states.length; i++) {
            String where = " when locked, state " + i;
            refused("unblock, right" + where, states[i], x -> x.unblock(PUK, OTHER), LOCKED);
            refused("unblock, wrong" + where, states[i], x -> x.unblock(NO_PUK, OTHER), LOCKED);
        }
    }

    private static void startWhenUp() {
        State[] states = {Cards::card, RefusedTest::in, RefusedTest::used, RefusedTest::locked, RefusedTest::armed40};
        for (int i = 0; i < states.length; i++) {
            refused("start when up, state " + i, states[i], x -> x.start() ? 1 : 0, FALSE);
        }
    }

    private static void armOutside() {
        State[] states = {Cards::card, RefusedTest::in, RefusedTest::down, RefusedTest::armed39, RefusedTest::armed40};
        int[][] outside = {{-1, 0}, {31, 0}, {31, 255}, {1, -1}, {1, 256}, {0, -1}, {0, 256}, {30, 256},
            {-1, 256}, {Integer.MIN_VALUE, 0}, {Integer.MAX_VALUE, 0}, {1, Integer.MIN_VALUE}, {1, Integer.MAX_VALUE}};
        for (int i = 0; i < states.length; i++) {
            for (int[] row : outside) {
                refused("arm(" + row[0] + ", " + row[1] + "), state " + i, states[i],
                    x -> x.arm(row[0], row[1]) ? 1 : 0, FALSE);
            }
        }
    }

    private static void armBehindForty() {
        int[][] rows = {{1, 0}, {1, 255}, {2, 0}, {3, 0}, {30, 255}};
        for (int[] row : rows) {
            String call = "arm(" + row[0] + ", " + row[1] + ")";
            refused(call + " behind forty", RefusedTest::armed40, x -> x.arm(row[0], row[1]) ? 1 : 0, FALSE);
        }
    }

    /** Not refused, but no call that asks is told to change anything. */
    private static void asking() {
        State[] states = {RefusedTest::in, RefusedTest::used, RefusedTest::down, RefusedTest::lockedAndFull};
        int[] pages = {-1, 0, 1, 2, Integer.MIN_VALUE, Integer.MAX_VALUE};
        for (int i = 0; i < states.length; i++) {
            refused("asking, state " + i, states[i], x -> {
                Cards.sight(x);
                for (int page : pages) {
                    x.erased(page);
                }
                return FALSE;
            }, FALSE);
        }
    }

    private static void refused(String what, State state, Cards.Call call, int due) {
        CHECK.says("A call that is refused changes nothing.");
        for (int[] armed : ARMED) {
            for (int first = 0; first < LATER.length; first++) {
                TornTryCounter x = state.make();
                TornTryCounter y = state.make();
                if (armed[0] > 0) {
                    x.arm(armed[0], armed[1]);
                    y.arm(armed[0], armed[1]);
                }
                refused(what + ", armed " + armed[0] + " with " + armed[1], x, call, due);
                alikeFromHere(what + ", armed " + armed[0] + " with " + armed[1], x, y, first);
            }
        }
    }

    private static void refused(String what, TornTryCounter x, Cards.Call call, int due) {
        int[] before = Cards.sight(x);
        CHECK.due(what, call.on(x), due);
        int[] after = Cards.sight(x);
        for (int i = 0; i < before.length; i++) {
            CHECK.due(what + ": question " + i, after[i], before[i]);
        }
    }

    private static final Cards.Call[] LATER = {
        x -> x.start() ? 1 : 0, x -> x.verify(OTHER), x -> x.start() ? 1 : 0, x -> x.verify(PIN),
        x -> x.start() ? 1 : 0, x -> x.unblock(NO_PUK, 1), x -> x.start() ? 1 : 0, x -> x.unblock(PUK, PIN),
        x -> x.start() ? 1 : 0, x -> x.change(PIN, 5), x -> x.start() ? 1 : 0, x -> x.verify(5),
        x -> x.start() ? 1 : 0, x -> x.verify(PIN), x -> x.start() ? 1 : 0, x -> x.verify(OTHER)
    };

    /** Each of the later calls comes first once: one that is refused too could hide what the refused one did. */
    private static void alikeFromHere(String where, TornTryCounter x, TornTryCounter y, int first) {
        for (int i = 0; i < LATER.length; i++) {
            int later = (first + i) % LATER.length;
            String behind = where + ", from later call " + first + " to " + later;
            CHECK.due(behind, LATER[later].on(x), LATER[later].on(y));
            int[] sightOfX = Cards.sight(x);
            int[] sightOfY = Cards.sight(y);
            for (int k = 0; k < sightOfX.length; k++) {
                CHECK.due(behind, sightOfX[k], sightOfY[k]);
            }
        }
        for (int i = 1; i <= 41; i++) {
            CHECK.due(where + ": tear " + i + " armed later", x.arm(30, 0), y.arm(30, 0));
        }
    }
}
