/** The section "Terms", sentence by sentence: each test fails if its sentence alone is broken. */
public final class TermsTest {
    private static final Check CHECK = new Check("TermsTest");
    private static final int DOWN = TornTryCounter.DOWN;
    private static final int LOCKED = TornTryCounter.LOCKED;
    private static final int LOST = TornTryCounter.LOST;
    private static final int WRONG = TornTryCounter.WRONG;
    private static final int RIGHT = TornTryCounter.RIGHT;
    private static final int PIN = Cards.PIN;
    private static final int OTHER = Cards.OTHER;
    private static final int PUK = Cards.PUK;
    private static final int NO_PUK = Cards.NO_PUK;

    public static void main(String[] args) {
        toProgram();
        toErase();
        toEraseTheTriesUsed();
        anOperation();
        tornMarkOfATry();
        tornMarkOfARightTry();
        tornMarkOfAPukTry();
        tornProgramOfByte0With0();
        tornProgramOfByte0With90();
        tornErase();
        tornCall();
        tornCallWithAllDone();
        tornBehindTheCall();
        goodPage();
        bytesOfThePin();
        tenEntries();
        entriesInTheirOrder();
        freeEntry();
        activeIsTheGoodOne();
        activeOfTwoGoodOnes();
        activeBehind255();
        pinTriesAreAAtFirst();
        pinTriesOneMore();
        pinTriesBackTo0();
        pukTriesUsed();
        pinOfTheActivePage();
        pukIsNeverChanged();
        atFirst();
        turnSevenOrEight();
        turnInThisOrder();
        turnOnThePageThatIsNotActive();
        turnGenerationBehind255();
        markWithAFreeEntry();
        markWithNoFreeEntry();
        markInTheFirstFreeEntry();
        markTornWhileTurning();
        markTornBehindTheTurn();
        tryLocked();
        tryLockedOnAFullPage();
        tryPutsTheHolderOut();
        tryMarksFirst();
        tryThatSameEntry();
        upOrDown();
        downPutsTheHolderOut();
        CHECK.end();
    }

    private static void toProgram() {
        CHECK.says("To PROGRAM a byte with v makes those of its bits 0 that are 0 in v.");
        TornTryCounter x = Cards.card();
        Cards.wrong(x, 2);
        Cards.right(x, 1);
        CHECK.due("tries: 253 over 254 leaves both bits 0", x.tries(), 3);
        Cards.wrong(x, 1);
        CHECK.due("tries behind it", x.tries(), 2);
    }

    private static void toErase() {
        CHECK.says("To ERASE a page makes all its bytes 255.");
        TornTryCounter x = new TornTryCounter(0, PUK, 7, 7);
        for (int i = 0; i < 10; i++) {
            x.verify(0);
        }
        CHECK.due("change on page 0, turned twice", x.change(0, 0xFFFF), RIGHT);
        CHECK.due("page", x.page(), 0);
        CHECK.due("free: entries", x.free(), 10);
        CHECK.due("generation: byte 1, 2 over 0", x.generation(), 2);
        CHECK.due("PIN: bytes 2 and 3, 255 over 0", x.verify(0xFFFF), RIGHT);
        CHECK.due("to page 1", x.change(0xFFFF, 0), RIGHT);
        CHECK.due("generation: byte 1, 3 over 1", x.generation(), 3);
        CHECK.due("free on page 1", x.free(), 10);
        CHECK.due("to page 0", x.change(0, 0xFFFF), RIGHT);
        CHECK.due("generation: byte 1, 4 over 2", x.generation(), 4);
        CHECK.due("free on page 0", x.free(), 10);
    }

    private static void toEraseTheTriesUsed() {
        CHECK.says("To ERASE a page makes all its bytes 255: bytes 4 and 5");
        TornTryCounter x = Cards.wide();
        Cards.right(x, 8);
        Cards.wrong(x, 2);
        Cards.wrong(x, 1);
        CHECK.due("tries: byte 4 of page 1 is 2", x.tries(), 4);
        x.change(PIN, PIN);
        Cards.right(x, 9);
        Cards.wrong(x, 1);
        Cards.wrong(x, 1);
        CHECK.due("page", x.page(), 1);
        CHECK.due("tries: byte 4 of page 1, 1 over 2", x.tries(), 5);

        TornTryCounter y = Cards.wide();
        Cards.wrongPuk(y, 2);
        y.change(PIN, PIN);
        CHECK.due("puks: byte 5 of page 1 is 2", y.puks(), 5);
        y.change(PIN, PIN);
        Cards.wrongPuk(y, 2);
        y.change(PIN, PIN);
        CHECK.due("page", y.page(), 1);
        CHECK.due("puks: byte 5 of page 1, 4 over 2", y.puks(), 3);
    }

    private static void anOperation() {
        CHECK.says("Each of these is an OPERATION.");
        TornTryCounter x = Cards.card();
        CHECK.due("one program", Cards.cost(x, y -> y.verify(OTHER)), 1);
        CHECK.due("two programs", Cards.cost(x, y -> y.verify(PIN)), 2);
        CHECK.due("eight programs and an erase", Cards.cost(x, y -> y.change(PIN, PIN)), 9);
        CHECK.due("no operation", Cards.cost(x, y -> y.cut() ? 1 : 0), 0);
        CHECK.due("no operation", Cards.cost(x, y -> y.start() ? 1 : 0), 0);
        CHECK.due("no operation", Cards.cost(x, y -> y.arm(1, 255) ? 1 : 0), 0);
    }

    private static final String TORN_PROGRAM =
        "then a program makes those bits 0 alone that it would make 0 and that are 1 in the mask";

    private static void tornMarkOfATry() {
        CHECK.says(TORN_PROGRAM + ": 254");
        for (int mask = 0; mask <= 255; mask++) {
            TornTryCounter x = Cards.card();
            boolean done = (mask & 1) != 0;
            x.arm(1, mask);
            CHECK.due("verify, mask " + mask, x.verify(PIN), LOST);
            CHECK.due("tries, mask " + mask, x.tries(), done ? 2 : 3);
            CHECK.due("puks, mask " + mask, x.puks(), 5);
            CHECK.due("free, mask " + mask, x.free(), done ? 9 : 10);
        }
    }

    private static void tornMarkOfARightTry() {
        CHECK.says(TORN_PROGRAM + ": 253");
        for (int mask = 0; mask <= 255; mask++) {
            TornTryCounter x = Cards.card();
            boolean done = (mask & 2) != 0;
            Cards.wrong(x, 1);
            x.arm(2, mask);
            CHECK.due("verify, mask " + mask, x.verify(PIN), LOST);
            CHECK.due("tries, mask " + mask, x.tries(), done ? 3 : 1);
            CHECK.due("puks, mask " + mask, x.puks(), 5);
            CHECK.due("free, mask " + mask, x.free(), 8);
        }
    }

    private static void tornMarkOfAPukTry() {
        CHECK.says(TORN_PROGRAM + ": 239");
        for (int mask = 0; mask <= 255; mask++) {
            TornTryCounter x = Cards.card();
            boolean done = (mask & 16) != 0;
            Cards.wrong(x, 1);
            x.arm(1, mask);
            CHECK.due("unblock, mask " + mask, x.unblock(PUK, OTHER), LOST);
            CHECK.due("tries, mask " + mask, x.tries(), 2);
            CHECK.due("puks, mask " + mask, x.puks(), done ? 4 : 5);
            CHECK.due("free, mask " + mask, x.free(), done ? 8 : 9);
        }
    }

    private static void tornProgramOfByte0With0() {
        CHECK.says(TORN_PROGRAM + ": byte 0 with 0");
        for (int mask = 0; mask <= 255; mask++) {
            TornTryCounter x = Cards.turned();
            x.arm(3, mask);
            CHECK.due("change, mask " + mask, x.change(PIN, OTHER), LOST);
            CHECK.due("page, mask " + mask, x.page(), 1);
            CHECK.due("generation, mask " + mask, x.generation(), 1);
            x.start();
            CHECK.due("cost of a turn, mask " + mask, Cards.costOfTurn(x, PIN), (mask & 90) == 0 ? 8 : 7);
        }
    }

    private static void tornProgramOfByte0With90() {
        CHECK.says(TORN_PROGRAM + ": byte 0 with 90");
        for (int mask = 0; mask <= 255; mask++) {
            TornTryCounter x = Cards.turned();
            boolean done = (mask & 165) == 165;
            x.arm(10, mask);
            CHECK.due("change, mask " + mask, x.change(PIN, OTHER), LOST);
            CHECK.due("page, mask " + mask, x.page(), done ? 0 : 1);
            CHECK.due("generation, mask " + mask, x.generation(), done ? 2 : 1);
            CHECK.due("free, mask " + mask, x.free(), done ? 10 : 9);
            x.start();
            CHECK.due("verify, mask " + mask, x.verify(done ? OTHER : PIN), RIGHT);
            CHECK.due("cost of a turn, mask " + mask, Cards.costOfTurn(x, done ? OTHER : PIN), done ? 8 : 7);
        }
    }

    /**
     * No call can see which bytes a torn erase leaves: the page is bad before it, stays bad, and
     * is erased again before it is good. What can be seen is that it is bad, and that nothing else moved.
     */
    private static void tornErase() {
        CHECK.says("an erase makes byte k of the page 255 only if bit k & 7 of the mask (0 the lowest) is 1");
        for (int mask = 0; mask <= 255; mask++) {
            TornTryCounter x = Cards.turned();
            Cards.wrongPuk(x, 1);
            x.arm(4, mask);
            CHECK.due("change, mask " + mask, x.change(PIN, OTHER), LOST);
            CHECK.due("page, mask " + mask, x.page(), 1);
            CHECK.due("generation, mask " + mask, x.generation(), 1);
            CHECK.due("free, mask " + mask, x.free(), 8);
            CHECK.due("tries, mask " + mask, x.tries(), 7);
            CHECK.due("puks, mask " + mask, x.puks(), 6);
            x.start();
            CHECK.due("cost of a turn, mask " + mask, Cards.costOfTurn(x, PIN), 7);
            CHECK.due("page behind it, mask " + mask, x.page(), 0);
            CHECK.due("generation behind it, mask " + mask, x.generation(), 2);
            CHECK.due("free behind it, mask " + mask, x.free(), 10);
            CHECK.due("PIN behind it, mask " + mask, x.verify(PIN), RIGHT);
        }
    }

    private static final Cards.Call[] CALLS = {
        x -> x.verify(OTHER), x -> x.verify(PIN), x -> x.change(OTHER, 1), x -> x.change(PIN, OTHER),
        x -> x.unblock(NO_PUK, 1), x -> x.unblock(PUK, OTHER)
    };
    private static final int[] ANSWERS = {WRONG, RIGHT, WRONG, RIGHT, WRONG, RIGHT};

    /** What each of the calls takes on a new card, on a turned one, and when these are full. */
    private static final int[][] COSTS = {
        {1, 1, 8, 9}, {2, 2, 9, 10}, {1, 1, 8, 9}, {9, 10, 17, 18}, {1, 1, 8, 9}, {8, 9, 16, 17}
    };

    private static TornTryCounter inState(int state) {
        return state == 0 ? Cards.wide() : state == 1 ? Cards.turned()
            : state == 2 ? Cards.full() : Cards.turnedAndFull();
    }

    private static void tornCall() {
        CHECK.says("what else it would do is left undone, and with it the power is lost: the card is DOWN, "
            + "the call ends at once with the answer LOST");
        for (int call = 0; call < CALLS.length; call++) {
            for (int state = 0; state < 4; state++) {
                for (int n = 1; n <= COSTS[call][state]; n++) {
                    tornCall(call, state, n, 0);
                    tornCall(call, state, n, 90);
                    tornCall(call, state, n, 255);
                }
            }
        }
    }

    private static void tornCall(int call, int state, int n, int mask) {
        String where = "call " + call + " in state " + state + " torn at " + n + " with " + mask;
        TornTryCounter x = inState(state);
        int before = x.operations();
        x.arm(n, mask);
        CHECK.due(where, CALLS[call].on(x), LOST);
        CHECK.due(where + ": operations", x.operations() - before, n);
        CHECK.due(where + ": up", x.up(), false);
        CHECK.due(where + ": in", x.in(), false);
        CHECK.due(where + ": the call after it", CALLS[call].on(x), DOWN);
        CHECK.due(where + ": start", x.start(), true);
        CHECK.due(where + ": nothing is armed any more", x.unblock(PUK, OTHER), RIGHT);
    }

    private static void tornCallWithAllDone() {
        CHECK.says("nothing that the call would do behind that operation is done.");
        TornTryCounter x = Cards.card();
        x.arm(1, 255);
        x.verify(PIN);
        CHECK.due("verify: the try is not given back", x.tries(), 2);
        x.start();
        x.arm(2, 255);
        x.verify(PIN);
        CHECK.due("verify: given back", x.tries(), 3);
        CHECK.due("verify: but nobody in", x.in(), false);
        x.start();
        x.arm(2, 255);
        x.change(PIN, OTHER);
        CHECK.due("change: no erase", x.erased(1), 0);
        x.start();
        CHECK.due("change: the old PIN", x.verify(PIN), RIGHT);
        x.arm(9, 255);
        x.change(PIN, OTHER);
        CHECK.due("change: all of it is done", x.page(), 1);
        CHECK.due("change: but nobody in", x.in(), false);
        x.start();
        x.arm(1, 255);
        x.unblock(PUK, PIN);
        CHECK.due("unblock: the try is counted", x.puks(), 4);
        CHECK.due("unblock: no erase", x.erased(0), 0);
        x.start();
        CHECK.due("unblock: the old PIN", x.verify(OTHER), RIGHT);
        x.arm(9, 255);
        CHECK.due("unblock: lost with all of it done", x.unblock(PUK, PIN), LOST);
        CHECK.due("unblock: page", x.page(), 0);
        CHECK.due("unblock: puks", x.puks(), 5);
    }

    private static void tornBehindTheCall() {
        CHECK.says("An operation can be TORN with a MASK (0 .. 255): one behind the call is not of the call");
        for (int call = 0; call < CALLS.length; call++) {
            for (int state = 0; state < 4; state++) {
                String where = "call " + call + " in state " + state;
                TornTryCounter x = inState(state);
                x.arm(COSTS[call][state] + 1, 0);
                CHECK.due(where, Cards.cost(x, CALLS[call]), COSTS[call][state]);
                CHECK.due(where + ": up", x.up(), true);
                CHECK.due(where + ": the next one is torn", x.verify(PIN), LOST);
                TornTryCounter y = inState(state);
                y.arm(COSTS[call][state] + 1, 0);
                CHECK.due(where + ": answer", CALLS[call].on(y), ANSWERS[call]);
                boolean lets = call == 1 || call == 3;
                CHECK.due(where + ": in", y.in(), lets);
            }
        }
    }

    private static void goodPage() {
        CHECK.says("A PAGE is GOOD when its byte 0 is 90.");
        for (int bit = 0; bit < 8; bit++) {
            if ((90 >> bit & 1) == 1) {
                TornTryCounter x = Cards.turned();
                x.arm(3, 1 << bit);
                x.change(PIN, PIN);
                x.start();
                CHECK.due("90 but for bit " + bit + " is not good", Cards.costOfTurn(x, PIN), 7);
            } else {
                TornTryCounter x = Cards.wide();
                x.arm(9, 255 ^ 1 << bit);
                x.change(PIN, OTHER);
                CHECK.due("90 and bit " + bit + " is not good: page", x.page(), 0);
                x.start();
                CHECK.due("90 and bit " + bit + " is not good: PIN", x.verify(PIN), RIGHT);
                CHECK.due("90 and bit " + bit + " is not good: turn", Cards.costOfTurn(x, PIN), 7);
            }
        }
        CHECK.due("255 is not good", Cards.costOfTurn(Cards.wide(), PIN), 7);
        CHECK.due("90 is good", Cards.costOfTurn(Cards.turned(), PIN), 8);
    }

    private static void bytesOfThePin() {
        CHECK.says("bytes 2 and 3 are the PIN (the higher eight bits first)");
        int[] odd = {0, 1, 0xFF, 0x100, 0xFF00, 0xFFFF, 0x8000, 0x7FFF, 0x5AA5, 90, 255 << 8 | 90};
        for (int pin : odd) {
            TornTryCounter x = new TornTryCounter(pin, PUK, 7, 7);
            onlyThisPin(x, pin, "made with " + pin);
            Cards.wrongPuk(x, 2);
            for (int i = 0; i < 10; i++) {
                x.verify(pin);
            }
            onlyThisPin(x, pin, "taken over " + pin);
            x.change(pin, OTHER);
            x.change(OTHER, pin);
            onlyThisPin(x, pin, "changed to " + pin);
            x.unblock(PUK, pin);
            onlyThisPin(x, pin, "unblocked with " + pin);
        }
    }

    private static void onlyThisPin(TornTryCounter x, int pin, String where) {
        for (int bit = 0; bit < 16; bit++) {
            CHECK.due(where + ", bit " + bit + " off", x.verify(pin ^ 1 << bit), WRONG);
            CHECK.due(where, x.verify(pin), RIGHT);
        }
    }

    private static void tenEntries() {
        CHECK.says("bytes 6 to 15 are ENTRIES");
        for (int used = 0; used <= 10; used++) {
            TornTryCounter x = Cards.wide();
            Cards.right(x, used);
            CHECK.due("free behind " + used, x.free(), 10 - used);
            CHECK.due("page behind " + used, x.page(), 0);
            CHECK.due("operations behind " + used, x.operations(), 2 * used);
        }
        TornTryCounter x = Cards.wide();
        Cards.right(x, 11);
        CHECK.due("free behind 11", x.free(), 9);
        CHECK.due("page behind 11", x.page(), 1);
    }

    private static void entriesInTheirOrder() {
        CHECK.says("bytes 6 to 15 are ENTRIES, in their order");
        for (int at = 0; at < 10; at++) {
            TornTryCounter x = Cards.wide();
            Cards.right(x, at);
            Cards.wrong(x, 1);
            CHECK.due("a wrong try behind " + at + " right ones", x.tries(), 6);
            if (at < 9) {
                Cards.right(x, 1);
                CHECK.due("a right try behind the wrong one at " + at, x.tries(), 7);
            }
        }
    }

    private static void freeEntry() {
        CHECK.says("an entry is FREE when it is 255.");
        TornTryCounter x = Cards.wide();
        Cards.wrong(x, 1);
        CHECK.due("254 is not free", x.free(), 9);
        Cards.right(x, 1);
        CHECK.due("252 is not free", x.free(), 8);
        Cards.wrongPuk(x, 1);
        CHECK.due("239 is not free", x.free(), 7);
        x.arm(1, 254);
        x.verify(PIN);
        CHECK.due("torn with nothing done, it is free still", x.free(), 7);
        x.start();
        Cards.wrong(x, 1);
        CHECK.due("and is the first free one", x.free(), 6);
    }

    private static void activeIsTheGoodOne() {
        CHECK.says("The ACTIVE page is the good one");
        CHECK.due("page 0 alone is good", Cards.wide().page(), 0);
        for (int turns = 0; turns <= 3; turns++) {
            for (int n = 3; n <= 8; n++) {
                TornTryCounter x = Cards.old(turns);
                String where = " after " + turns + " turns, torn at " + n;
                x.arm(n, 255);
                CHECK.due("lost" + where, x.change(PIN, OTHER), LOST);
                CHECK.due("page" + where, x.page(), turns & 1);
                CHECK.due("generation" + where, x.generation(), turns);
                CHECK.due("free" + where, x.free(), 9);
            }
        }
    }

    private static void activeOfTwoGoodOnes() {
        CHECK.says("if both are good, the one whose generation is the other's and 1 more");
        for (int turns = 1; turns <= 6; turns++) {
            TornTryCounter x = Cards.old(turns);
            CHECK.due("page after " + turns, x.page(), turns & 1);
            CHECK.due("generation after " + turns, x.generation(), turns);
            x.arm(3, 165);
            CHECK.due("lost, and both are good still", x.change(PIN, OTHER), LOST);
            CHECK.due("page after " + turns + " and a loss", x.page(), turns & 1);
            CHECK.due("generation after " + turns + " and a loss", x.generation(), turns);
        }
    }

    private static void activeBehind255() {
        CHECK.says("if both are good, the one whose generation is the other's and 1 more (0 behind 255).");
        for (int turns = 254; turns <= 258; turns++) {
            TornTryCounter x = Cards.old(turns);
            String where = " after " + turns + " turns";
            CHECK.due("page" + where, x.page(), turns & 1);
            CHECK.due("generation" + where, x.generation(), turns & 255);
            CHECK.due("PIN" + where, x.verify(PIN), RIGHT);
            x.arm(3, 0);
            CHECK.due("lost, and both are good still" + where, x.change(PIN, OTHER), LOST);
            CHECK.due("page of two good ones" + where, x.page(), turns & 1);
            x.start();
            x.arm(3, 255);
            CHECK.due("lost, and one is good alone" + where, x.change(PIN, OTHER), LOST);
            CHECK.due("page of one good one" + where, x.page(), turns & 1);
            CHECK.due("generation of it" + where, x.generation(), turns & 255);
            x.start();
            x.arm(9, 165);
            CHECK.due("lost, and both are good again" + where, x.change(PIN, OTHER), LOST);
            CHECK.due("the later one" + where, x.page(), turns + 1 & 1);
            CHECK.due("generation of the later one" + where, x.generation(), turns + 1 & 255);
        }
    }

    private static void pinTriesAreAAtFirst() {
        CHECK.says("they are A at first");
        for (int used = 0; used <= 7; used++) {
            TornTryCounter x = Cards.wide();
            Cards.right(x, 10 - used);
            Cards.wrong(x, used);
            CHECK.due("free", x.free(), 0);
            Cards.wrongPuk(x, 1);
            CHECK.due("page", x.page(), 1);
            CHECK.due("tries, A = " + used, x.tries(), 7 - used);
            Cards.wrong(x, 1);
            CHECK.due("tries, A = " + used + " and one more", x.tries(), used == 7 ? 0 : 6 - used);
        }
    }

    private static void pinTriesOneMore() {
        CHECK.says("for each entry from the first one on: 1 more if its bit 0 is 0");
        TornTryCounter x = Cards.wide();
        for (int used = 0; used <= 7; used++) {
            CHECK.due("tries behind " + used, x.tries(), 7 - used);
            Cards.wrong(x, 1);
        }
        TornTryCounter y = Cards.wide();
        Cards.wrong(y, 1);
        Cards.wrongPuk(y, 3);
        CHECK.due("the entry of a PUK try is none", y.tries(), 6);
        Cards.wrong(y, 1);
        CHECK.due("a try behind them is one more", y.tries(), 5);
    }

    private static void pinTriesBackTo0() {
        CHECK.says("and 0 if its bit 1 is 0 too.");
        for (int used = 0; used <= 6; used++) {
            TornTryCounter x = Cards.wide();
            Cards.wrong(x, used);
            Cards.right(x, 1);
            CHECK.due("a right try behind " + used + " wrong ones", x.tries(), 7);
            Cards.wrong(x, 2);
            CHECK.due("two wrong ones behind it", x.tries(), 5);

            TornTryCounter y = Cards.wide();
            Cards.right(y, 10 - used);
            Cards.wrong(y, used);
            Cards.right(y, 1);
            CHECK.due("turned", y.page(), 1);
            CHECK.due("a right try behind A = " + used, y.tries(), 7);
        }
    }

    private static void pukTriesUsed() {
        CHECK.says("THE PUK TRIES USED are B and the number of entries whose bit 4 is 0.");
        for (int before = 0; before <= 7; before++) {
            TornTryCounter x = Cards.wide();
            Cards.wrongPuk(x, before);
            CHECK.due("puks, entries " + before, x.puks(), 7 - before);
            Cards.right(x, 1);
            CHECK.due("a right PIN gives none back", x.puks(), 7 - before);
            Cards.wrong(x, 1);
            CHECK.due("a wrong PIN takes none", x.puks(), 7 - before);
            x.change(PIN, PIN);
            CHECK.due("puks, B = " + before, x.puks(), 7 - before);
            for (int more = 1; before + more <= 7; more++) {
                Cards.wrongPuk(x, 1);
                CHECK.due("puks, B = " + before + ", entries " + more, x.puks(), 7 - before - more);
            }
        }
    }

    private static void pinOfTheActivePage() {
        CHECK.says("The PIN is that of the active page");
        for (int turns = 0; turns <= 2; turns++) {
            int last = turns == 0 ? 9 : 10;
            for (int n = 1; n <= last; n++) {
                pinOfTheActivePage(turns, n, n == last, x -> x.change(PIN, OTHER));
            }
            for (int n = 1; n <= last - 1; n++) {
                pinOfTheActivePage(turns, n, n == last - 1, x -> x.unblock(PUK, OTHER));
            }
        }
    }

    private static void pinOfTheActivePage(int turns, int n, boolean last, Cards.Call call) {
        TornTryCounter x = Cards.old(turns);
        String where = " after " + turns + " turns, torn at " + n;
        x.arm(n, 255);
        CHECK.due("lost" + where, call.on(x), LOST);
        x.start();
        CHECK.due("the old PIN" + where, x.verify(PIN), last ? WRONG : RIGHT);
        CHECK.due("the new PIN" + where, x.verify(OTHER), last ? RIGHT : WRONG);
    }

    private static void pukIsNeverChanged() {
        CHECK.says("the PUK is never changed.");
        TornTryCounter x = Cards.wide();
        CHECK.due("unblock", x.unblock(PUK, OTHER), RIGHT);
        CHECK.due("the next PIN is no PUK", x.unblock(OTHER, PIN), WRONG);
        CHECK.due("the first PIN is no PUK", x.unblock(PIN, PIN), WRONG);
        CHECK.due("the PUK again", x.unblock(PUK, 5), RIGHT);
        CHECK.due("change", x.change(5, PIN), RIGHT);
        CHECK.due("the PUK behind a change", x.unblock(PUK, PIN), RIGHT);
        Cards.right(x, 25);
        CHECK.due("the PUK behind full pages", x.unblock(PUK, PIN), RIGHT);
        x.cut();
        x.start();
        CHECK.due("the PUK behind a loss", x.unblock(PUK, PIN), RIGHT);
    }

    private static void atFirst() {
        CHECK.says("At first page 0 has byte 0 = 90, generation 0, the PIN that the card was made with, "
            + "A = 0, B = 0, free entries; page 1 has 255 everywhere.");
        int[] want = {0, 1, 7, 7, 0, 0, 10, 0, 0, 0};
        int[] got = Cards.sight(Cards.wide());
        for (int i = 0; i < want.length; i++) {
            CHECK.due("question " + i, got[i], want[i]);
        }
        CHECK.due("the PIN", Cards.wide().verify(PIN), RIGHT);
        CHECK.due("page 1 is not good", Cards.costOfTurn(Cards.wide(), PIN), 7);
        TornTryCounter x = Cards.wide();
        x.change(PIN, 0xFFFF);
        CHECK.due("on page 1", x.verify(0xFFFF), RIGHT);
        CHECK.due("free on page 1", x.free(), 9);
    }

    private static void turnSevenOrEight() {
        CHECK.says("seven or eight operations");
        CHECK.due("by change, first", Cards.cost(Cards.wide(), x -> x.change(PIN, OTHER)), 9);
        CHECK.due("by change, later", Cards.cost(Cards.turned(), x -> x.change(PIN, OTHER)), 10);
        CHECK.due("by unblock, first", Cards.cost(Cards.wide(), x -> x.unblock(PUK, OTHER)), 8);
        CHECK.due("by unblock, later", Cards.cost(Cards.turned(), x -> x.unblock(PUK, OTHER)), 9);
        CHECK.due("by a mark, first", Cards.cost(Cards.full(), x -> x.verify(OTHER)), 8);
        CHECK.due("by a mark, later", Cards.cost(Cards.turnedAndFull(), x -> x.verify(OTHER)), 9);
        CHECK.due("by a PUK mark, first", Cards.cost(Cards.full(), x -> x.unblock(NO_PUK, 1)), 8);
        CHECK.due("by a PUK mark, later", Cards.cost(Cards.turnedAndFull(), x -> x.unblock(NO_PUK, 1)), 9);
    }

    private static void turnInThisOrder() {
        CHECK.says("in this order: if it is good, byte 0 is programmed with 0; the page is erased; ... byte 0 with 90.");
        for (int n = 1; n <= 8; n++) {
            TornTryCounter x = Cards.turned();
            x.arm(2 + n, 255);
            CHECK.due("torn at " + n, x.change(PIN, OTHER), LOST);
            CHECK.due("erased(0), torn at " + n, x.erased(0), n == 1 ? 0 : 1);
            CHECK.due("page, torn at " + n, x.page(), n == 8 ? 0 : 1);
            x.start();
            CHECK.due("next turn, torn at " + n, Cards.costOfTurn(x, n == 8 ? OTHER : PIN), n == 8 ? 8 : 7);

            TornTryCounter y = Cards.turned();
            y.arm(2 + n, 0);
            CHECK.due("not done at " + n, y.change(PIN, OTHER), LOST);
            CHECK.due("erased(0), not done at " + n, y.erased(0), n == 1 ? 0 : 1);
            CHECK.due("page, not done at " + n, y.page(), 1);
            y.start();
            CHECK.due("next turn, not done at " + n, Cards.costOfTurn(y, PIN), n == 1 ? 8 : 7);
        }
        for (int n = 1; n <= 7; n++) {
            TornTryCounter x = Cards.wide();
            x.arm(2 + n, 255);
            CHECK.due("first turn, torn at " + n, x.change(PIN, OTHER), LOST);
            CHECK.due("first turn, erased(1), torn at " + n, x.erased(1), 1);
            CHECK.due("first turn, page, torn at " + n, x.page(), n == 7 ? 1 : 0);
        }
    }

    private static void turnOnThePageThatIsNotActive() {
        CHECK.says("operations on the page that is not active");
        TornTryCounter x = Cards.wide();
        for (int turns = 1; turns <= 6; turns++) {
            x.change(PIN, PIN);
            CHECK.due("page after " + turns, x.page(), turns & 1);
            CHECK.due("erased(0) after " + turns, x.erased(0), turns / 2);
            CHECK.due("erased(1) after " + turns, x.erased(1), (turns + 1) / 2);
        }
    }

    private static void turnGenerationBehind255() {
        CHECK.says("byte 1 is programmed with the active page's generation and 1 more (0 behind 255)");
        TornTryCounter x = Cards.old(253);
        for (int turns = 254; turns <= 258; turns++) {
            CHECK.due("turn " + turns, x.change(PIN, PIN), RIGHT);
            CHECK.due("generation " + turns, x.generation(), turns & 255);
        }
        TornTryCounter y = Cards.old(255);
        CHECK.due("by unblock", y.unblock(PUK, PIN), RIGHT);
        CHECK.due("generation by unblock", y.generation(), 0);
        TornTryCounter z = Cards.old(255);
        Cards.right(z, 11);
        CHECK.due("generation by a mark", z.generation(), 0);
        CHECK.due("page by a mark", z.page(), 0);
    }

    private static void markWithAFreeEntry() {
        CHECK.says("TO MARK with v: if no entry of the active page is free, the page is turned: one is free");
        TornTryCounter x = Cards.wide();
        Cards.right(x, 9);
        CHECK.due("the last free entry", Cards.cost(x, y -> y.verify(OTHER)), 1);
        CHECK.due("not turned", x.page(), 0);
        CHECK.due("free", x.free(), 0);
        TornTryCounter z = Cards.wide();
        Cards.right(z, 9);
        CHECK.due("the last free entry, PUK", Cards.cost(z, y -> y.unblock(NO_PUK, 1)), 1);
        CHECK.due("not turned, PUK", z.page(), 0);
    }

    private static void markWithNoFreeEntry() {
        CHECK.says("if no entry of the active page is free, the page is turned with its PIN and the tries used; "
            + "then the first free entry of the active page is programmed with v.");
        for (int used = 0; used <= 6; used++) {
            for (int puks = 0; puks <= 10 - used && puks <= 7; puks++) {
                TornTryCounter x = Cards.wide();
                Cards.wrongPuk(x, puks);
                Cards.right(x, 10 - used - puks);
                Cards.wrong(x, used);
                String where = " with " + used + " and " + puks + " used";
                CHECK.due("free" + where, x.free(), 0);
                CHECK.due("wrong try" + where, x.verify(OTHER), WRONG);
                CHECK.due("page" + where, x.page(), 1);
                CHECK.due("generation" + where, x.generation(), 1);
                CHECK.due("free behind it" + where, x.free(), 9);
                CHECK.due("tries" + where, x.tries(), 6 - used);
                CHECK.due("puks" + where, x.puks(), 7 - puks);
                boolean left = used < 6;
                CHECK.due("its PIN" + where, x.verify(PIN), left ? RIGHT : LOCKED);
            }
        }
    }

    private static void markInTheFirstFreeEntry() {
        CHECK.says("then the first free entry of the active page is programmed with v: each once");
        for (int turns = 0; turns <= 2; turns++) {
            TornTryCounter x = Cards.old(turns);
            for (int used = 1; used <= 7; used++) {
                Cards.wrong(x, 1);
                CHECK.due("free behind " + used + " after " + turns, x.free(), 10 - used);
                CHECK.due("tries behind " + used + " after " + turns, x.tries(), 7 - used);
            }
            Cards.wrongPuk(x, 3);
            CHECK.due("free behind ten after " + turns, x.free(), 0);
            CHECK.due("puks behind ten after " + turns, x.puks(), 4);
            Cards.wrongPuk(x, 1);
            CHECK.due("free behind eleven after " + turns, x.free(), 9);
            CHECK.due("tries behind eleven after " + turns, x.tries(), 0);
            CHECK.due("puks behind eleven after " + turns, x.puks(), 3);
        }
    }

    private static void markTornWhileTurning() {
        CHECK.says("if no entry of the active page is free, the page is turned: torn while it turns");
        for (int n = 1; n <= 7; n++) {
            TornTryCounter x = Cards.wide();
            Cards.wrongPuk(x, 3);
            Cards.right(x, 5);
            Cards.wrong(x, 2);
            x.arm(n, n == 7 ? 254 : 255);
            CHECK.due("torn at " + n, x.verify(PIN), LOST);
            CHECK.due("page, torn at " + n, x.page(), 0);
            CHECK.due("free, torn at " + n, x.free(), 0);
            CHECK.due("tries, torn at " + n, x.tries(), 5);
            CHECK.due("puks, torn at " + n, x.puks(), 4);
            x.start();
            CHECK.due("again, torn at " + n, x.verify(PIN), RIGHT);
            CHECK.due("operations, torn at " + n, x.operations(), 15 + n + 9);
            CHECK.due("erased(1), torn at " + n, x.erased(1), 2);
            CHECK.due("puks again, torn at " + n, x.puks(), 4);
        }
    }

    private static void markTornBehindTheTurn() {
        CHECK.says("then the first free entry of the active page is programmed with v: torn behind the turn");
        for (int n = 7; n <= 8; n++) {
            TornTryCounter x = Cards.wide();
            Cards.wrongPuk(x, 3);
            Cards.right(x, 5);
            Cards.wrong(x, 2);
            x.arm(n, n == 7 ? 255 : 0);
            CHECK.due("torn at " + n, x.verify(PIN), LOST);
            CHECK.due("page, torn at " + n, x.page(), 1);
            CHECK.due("free, torn at " + n, x.free(), 10);
            CHECK.due("tries, torn at " + n, x.tries(), 5);
            CHECK.due("puks, torn at " + n, x.puks(), 4);
            x.start();
            CHECK.due("wrong, torn at " + n, x.verify(OTHER), WRONG);
            CHECK.due("tries behind it, torn at " + n, x.tries(), 4);
            CHECK.due("right, torn at " + n, x.verify(PIN), RIGHT);
        }
    }

    private static void tryLocked() {
        CHECK.says("LOCKED, and nothing is done, when the PIN tries used are the PIN limit or more.");
        for (int limit = 1; limit <= 7; limit++) {
            TornTryCounter x = new TornTryCounter(PIN, PUK, limit, 5);
            Cards.wrong(x, limit - 1);
            CHECK.due("the last try of " + limit, x.verify(PIN), RIGHT);
            Cards.wrong(x, limit - 1);
            CHECK.due("the last try of " + limit + " by change", x.change(PIN, PIN), RIGHT);
            Cards.wrong(x, limit);
            int before = x.operations();
            int free = x.free();
            CHECK.due("none left of " + limit, x.verify(PIN), LOCKED);
            CHECK.due("none left of " + limit + ", wrong", x.verify(OTHER), LOCKED);
            CHECK.due("none left of " + limit + " by change", x.change(PIN, OTHER), LOCKED);
            CHECK.due("none left of " + limit + " by change, wrong", x.change(OTHER, OTHER), LOCKED);
            CHECK.due("operations, none left of " + limit, x.operations(), before);
            CHECK.due("free, none left of " + limit, x.free(), free);
            CHECK.due("tries, none left of " + limit, x.tries(), 0);
            CHECK.due("in, none left of " + limit, x.in(), false);
        }
    }

    private static void tryLockedOnAFullPage() {
        CHECK.says("LOCKED, and nothing is done, when the PIN tries used are the PIN limit or more: a full page");
        TornTryCounter x = Cards.card();
        Cards.right(x, 7);
        Cards.wrong(x, 3);
        CHECK.due("free", x.free(), 0);
        CHECK.due("verify", x.verify(PIN), LOCKED);
        CHECK.due("change", x.change(PIN, OTHER), LOCKED);
        CHECK.due("page", x.page(), 0);
        CHECK.due("erased(1)", x.erased(1), 0);
        Cards.wrongPuk(x, 1);
        CHECK.due("turned by a PUK try", x.page(), 1);
        CHECK.due("locked by A", x.verify(PIN), LOCKED);
        CHECK.due("locked by A, change", x.change(PIN, OTHER), LOCKED);
        CHECK.due("free by A", x.free(), 9);
    }

    private static void tryPutsTheHolderOut() {
        CHECK.says("Else the holder is no more in");
        TornTryCounter x = Cards.card();
        Cards.right(x, 1);
        CHECK.due("in", x.in(), true);
        CHECK.due("wrong", x.verify(OTHER), WRONG);
        CHECK.due("out", x.in(), false);
        Cards.right(x, 1);
        CHECK.due("in", x.in(), true);
        CHECK.due("wrong change", x.change(OTHER, 1), WRONG);
        CHECK.due("out", x.in(), false);
    }

    private static void tryMarksFirst() {
        CHECK.says("it is marked with 254; when x is not the PIN, the answer is WRONG");
        int[] tried = {PIN, OTHER};
        for (int number : tried) {
            TornTryCounter x = Cards.card();
            x.arm(1, 255);
            CHECK.due("a try is counted before it is compared: " + number, x.verify(number), LOST);
            CHECK.due("tries, verify " + number, x.tries(), 2);
            x.start();
            x.arm(1, 255);
            CHECK.due("a try is counted before it is compared: change " + number, x.change(number, 1), LOST);
            CHECK.due("tries, change " + number, x.tries(), 1);
        }
        TornTryCounter x = Cards.card();
        CHECK.due("wrong", x.verify(OTHER), WRONG);
        CHECK.due("operations", x.operations(), 1);
        CHECK.due("tries", x.tries(), 2);
        CHECK.due("puks", x.puks(), 5);
        CHECK.due("wrong change", x.change(OTHER, OTHER), WRONG);
        CHECK.due("operations", x.operations(), 2);
        CHECK.due("tries", x.tries(), 1);
    }

    private static void tryThatSameEntry() {
        CHECK.says("else that same entry is programmed with 253.");
        for (int before = 0; before <= 10; before++) {
            TornTryCounter x = Cards.wide();
            Cards.right(x, before);
            CHECK.due("operations, right behind " + before,
                Cards.cost(x, y -> y.verify(PIN)), before == 10 ? 9 : 2);
            CHECK.due("free, right behind " + before, x.free(), before == 10 ? 9 : 9 - before);
            CHECK.due("tries, right behind " + before, x.tries(), 7);
            CHECK.due("puks, right behind " + before, x.puks(), 7);
        }
    }

    private static void upOrDown() {
        CHECK.says("The card is UP or DOWN.");
        TornTryCounter x = Cards.card();
        CHECK.due("up", x.up(), true);
        x.cut();
        CHECK.due("down", x.up(), false);
        CHECK.due("verify", x.verify(PIN), DOWN);
        CHECK.due("change", x.change(PIN, OTHER), DOWN);
        CHECK.due("unblock", x.unblock(PUK, OTHER), DOWN);
        CHECK.due("start", x.start(), true);
        CHECK.due("up", x.up(), true);
        CHECK.due("verify", x.verify(PIN), RIGHT);
    }

    private static void downPutsTheHolderOut() {
        CHECK.says("When it goes down, the holder is no more in.");
        for (int call = 0; call < CALLS.length; call++) {
            TornTryCounter x = Cards.card();
            Cards.right(x, 1);
            x.arm(1, 0);
            CHECK.due("torn in call " + call, CALLS[call].on(x), LOST);
            CHECK.due("in, torn in call " + call, x.in(), false);
            x.start();
            CHECK.due("in, started behind call " + call, x.in(), false);
        }
        TornTryCounter x = Cards.card();
        Cards.right(x, 1);
        CHECK.due("in", x.in(), true);
        x.cut();
        CHECK.due("in, cut", x.in(), false);
        x.start();
        CHECK.due("in, started", x.in(), false);
    }
}
