/** The promises, sentence by sentence: each test fails if its sentence alone is broken. */
public final class PromisesTest {
    private static final Check CHECK = new Check("PromisesTest");
    private static final int DOWN = TornTryCounter.DOWN;
    private static final int LOCKED = TornTryCounter.LOCKED;
    private static final int LOST = TornTryCounter.LOST;
    private static final int WRONG = TornTryCounter.WRONG;
    private static final int RIGHT = TornTryCounter.RIGHT;
    private static final int PIN = Cards.PIN;
    private static final int OTHER = Cards.OTHER;
    private static final int PUK = Cards.PUK;
    private static final int NO_PUK = Cards.NO_PUK;

    /** None of them is a limit (1 .. 7), and none is a page (0 or 1). */
    private static final int[] ODD = {Integer.MIN_VALUE, Integer.MIN_VALUE + 3, -257, -7, -2, -1,
        8, 9, 16, 255, 256, 257, 259, 65537, Integer.MAX_VALUE - 1, Integer.MAX_VALUE};

    public static void main(String[] args) {
        promise1();
        promise2();
        promise3();
        promise4();
        promise5();
        promises6To9();
        promises10And11();
        promises12To14();
        promises15And16();
        CHECK.end();
    }

    private static void promise1() {
        newCardIsUpAndNobodyIn();
        newPinIs16Bits();
        newPukIs32Bits();
        newPinLimit();
        newPukLimit();
        newLimitsAreUsed();
        newNothingIsArmed();
    }

    private static void newCardIsUpAndNobodyIn() {
        CHECK.says("1: A card that is up, nobody in.");
        TornTryCounter x = Cards.card();
        CHECK.due("up", x.up(), true);
        CHECK.due("in", x.in(), false);
        CHECK.due("start", x.start(), false);
    }

    private static void newPinIs16Bits() {
        CHECK.says("1: The PIN is the lowest 16 bits of pin");
        int[][] rows = {{65536, 0}, {65535, 65535}, {-1, 65535}, {-65536, 0}, {0xABC1A34F, 0xA34F},
            {Integer.MIN_VALUE, 0}, {Integer.MAX_VALUE, 65535}, {0x8000, 0x8000}, {0x18000, 0x8000}};
        for (int[] row : rows) {
            CHECK.due("made with " + row[0], new TornTryCounter(row[0], PUK, 3, 5).verify(row[1]), RIGHT);
            int off = row[1] ^ 0x8000;
            CHECK.due("made with " + row[0] + ", bit 15 off",
                new TornTryCounter(row[0], PUK, 3, 5).verify(off), WRONG);
        }
    }

    private static void newPukIs32Bits() {
        CHECK.says("1: the PUK is puk, all its 32 bits");
        int[] puks = {0, 1, -1, 65535, 65536, 0x80010002, Integer.MIN_VALUE, Integer.MAX_VALUE};
        for (int puk : puks) {
            CHECK.due("made with " + puk, new TornTryCounter(PIN, puk, 3, 5).unblock(puk, 1), RIGHT);
            for (int bit = 0; bit < 32; bit++) {
                CHECK.due("made with " + puk + ", bit " + bit + " off",
                    new TornTryCounter(PIN, puk, 3, 5).unblock(puk ^ 1 << bit, 1), WRONG);
            }
        }
    }

    private static void newPinLimit() {
        CHECK.says("1: the PIN limit is limit, but 3 if that is not 1 .. 7");
        for (int limit = 1; limit <= 7; limit++) {
            CHECK.due("limit " + limit, new TornTryCounter(PIN, PUK, limit, 5).tries(), limit);
        }
        CHECK.due("limit 0", new TornTryCounter(PIN, PUK, 0, 5).tries(), 3);
        for (int limit : ODD) {
            CHECK.due("limit " + limit, new TornTryCounter(PIN, PUK, limit, 5).tries(), 3);
            CHECK.due("puks, limit " + limit, new TornTryCounter(PIN, PUK, limit, 2).puks(), 2);
        }
    }

    private static void newPukLimit() {
        CHECK.says("1: the PUK limit pukLimit, but 5 if that is not 1 .. 7.");
        for (int limit = 1; limit <= 7; limit++) {
            CHECK.due("pukLimit " + limit, new TornTryCounter(PIN, PUK, 3, limit).puks(), limit);
        }
        CHECK.due("pukLimit 0", new TornTryCounter(PIN, PUK, 3, 0).puks(), 5);
        for (int limit : ODD) {
            CHECK.due("pukLimit " + limit, new TornTryCounter(PIN, PUK, 3, limit).puks(), 5);
            CHECK.due("tries, pukLimit " + limit, new TornTryCounter(PIN, PUK, 2, limit).tries(), 2);
        }
    }

    private static void newLimitsAreUsed() {
        CHECK.says("1: the PIN limit is limit, ... the PUK limit pukLimit: so many tries there are");
        for (int limit = 0; limit <= 8; limit++) {
            TornTryCounter x = new TornTryCounter(PIN, PUK, limit, 8 - limit);
            int pins = limit == 0 || limit == 8 ? 3 : limit;
            int puks = limit == 0 || limit == 8 ? 5 : 8 - limit;
            for (int i = 1; i <= pins; i++) {
                CHECK.due("limit " + limit + ", try " + i, x.verify(OTHER), WRONG);
            }
            CHECK.due("limit " + limit + ", none left", x.verify(PIN), LOCKED);
            for (int i = 1; i <= puks; i++) {
                CHECK.due("pukLimit " + (8 - limit) + ", try " + i, x.unblock(NO_PUK, 1), WRONG);
            }
            CHECK.due("pukLimit " + (8 - limit) + ", none left", x.unblock(PUK, 1), LOCKED);
        }
    }

    private static void newNothingIsArmed() {
        CHECK.says("1: Nothing is armed.");
        TornTryCounter x = Cards.card();
        for (int i = 1; i <= 40; i++) {
            CHECK.due("verify " + i, x.verify(PIN), RIGHT);
        }
        TornTryCounter y = Cards.card();
        for (int i = 1; i <= 40; i++) {
            CHECK.due("all forty tears are left: " + i, y.arm(30, 0), true);
        }
    }

    private static void promise2() {
        verifyIts16Bits();
        verifyAnswers();
        verifyLost();
    }

    private static void verifyIts16Bits() {
        CHECK.says("2: Tries a number (its lowest 16 bits)");
        TornTryCounter x = Cards.wide();
        for (int bit = 0; bit < 32; bit++) {
            CHECK.due("bit " + bit + " off", x.verify(PIN ^ 1 << bit), bit < 16 ? WRONG : RIGHT);
            CHECK.due("in, bit " + bit + " off", x.in(), bit >= 16);
            CHECK.due("right", x.verify(PIN), RIGHT);
        }
        CHECK.due("all higher bits", x.verify(PIN | 0xFFFF0000), RIGHT);
        CHECK.due("its negative", x.verify(-PIN), WRONG);
        CHECK.due("0", x.verify(0), WRONG);
        CHECK.due("lower byte alone", x.verify(PIN & 255), WRONG);
        CHECK.due("higher byte alone", x.verify(PIN & 0xFF00), WRONG);
        CHECK.due("bytes the other way", x.verify(PIN >> 8 | (PIN & 255) << 8), WRONG);
    }

    private static void verifyAnswers() {
        CHECK.says("2: DOWN, LOCKED, LOST, WRONG, or RIGHT: the holder is in.");
        TornTryCounter x = Cards.card();
        CHECK.due("wrong", x.verify(OTHER), WRONG);
        CHECK.due("in, wrong", x.in(), false);
        CHECK.due("right", x.verify(PIN), RIGHT);
        CHECK.due("in, right", x.in(), true);
        CHECK.due("right again", x.verify(PIN), RIGHT);
        CHECK.due("in, right again", x.in(), true);
        x.arm(1, 255);
        CHECK.due("lost", x.verify(PIN), LOST);
        CHECK.due("in, lost", x.in(), false);
        CHECK.due("down", x.verify(PIN), DOWN);
        CHECK.due("in, down", x.in(), false);
        x.start();
        Cards.wrong(x, 3);
        CHECK.due("locked", x.verify(PIN), LOCKED);
        CHECK.due("in, locked", x.in(), false);
        x.cut();
        CHECK.due("down and locked", x.verify(PIN), DOWN);
        x.start();
        CHECK.due("locked still", x.verify(PIN), LOCKED);
    }

    private static void verifyLost() {
        CHECK.says("2: LOST: no loss of power gives a try back that went wrong, or lets anybody in");
        TornTryCounter x = Cards.card();
        x.arm(1, 254);
        CHECK.due("lost before the try is counted", x.verify(PIN), LOST);
        CHECK.due("not counted", x.tries(), 3);
        x.start();
        x.arm(1, 1);
        CHECK.due("lost when the try is counted", x.verify(PIN), LOST);
        CHECK.due("counted", x.tries(), 2);
        x.start();
        x.arm(2, 253);
        CHECK.due("lost before the try is given back", x.verify(PIN), LOST);
        CHECK.due("not given back", x.tries(), 1);
        CHECK.due("nobody in", x.in(), false);
        x.start();
        CHECK.due("nobody in after the start", x.in(), false);
        x.arm(2, 2);
        CHECK.due("lost when the try is given back", x.verify(PIN), LOST);
        CHECK.due("given back", x.tries(), 3);
        CHECK.due("but nobody in", x.in(), false);
    }

    private static void promise3() {
        changeTriesIts16Bits();
        changeTakes16Bits();
        changeOnlyIfItIsThePin();
        changeGivesPinTriesBack();
        changeKeepsPukTriesUsed();
        changeAnswers();
        changeLost();
    }

    private static void changeTriesIts16Bits() {
        CHECK.says("3: Tries a number (the lowest 16 bits of pin)");
        for (int bit = 0; bit < 32; bit++) {
            TornTryCounter x = Cards.card();
            boolean right = bit >= 16;
            CHECK.due("bit " + bit + " off", x.change(PIN ^ 1 << bit, OTHER), right ? RIGHT : WRONG);
            CHECK.due("in, bit " + bit + " off", x.in(), right);
            CHECK.due("tries, bit " + bit + " off", x.tries(), right ? 3 : 2);
        }
    }

    private static void changeTakes16Bits() {
        CHECK.says("3: turns the page with the lowest 16 bits of next");
        int[] nexts = {0, 1, -1, 0xFF, 0x100, 0x7FFF4321, 0xFFFF, 0x10000, 0x1FFFF, PIN,
            Integer.MIN_VALUE, Integer.MAX_VALUE};
        for (int next : nexts) {
            TornTryCounter x = Cards.card();
            CHECK.due("to " + next, x.change(PIN, next), RIGHT);
            CHECK.due("page, to " + next, x.page(), 1);
            CHECK.due("generation, to " + next, x.generation(), 1);
            CHECK.due("free, to " + next, x.free(), 10);
            CHECK.due("operations, to " + next, x.operations(), 9);
            CHECK.due("the new number " + next, x.verify(next & 0xFFFF), RIGHT);
            CHECK.due("one bit off " + next, x.verify(next ^ 0x8000), WRONG);
            CHECK.due("the old number, to " + next, x.verify(PIN), next == PIN ? RIGHT : WRONG);
            CHECK.due("back from " + next, x.change(next, PIN), RIGHT);
            CHECK.due("page, back from " + next, x.page(), 0);
            CHECK.due("PIN, back from " + next, x.verify(PIN), RIGHT);
        }
    }

    private static void changeOnlyIfItIsThePin() {
        CHECK.says("3: and if it is the PIN, turns the page");
        TornTryCounter x = Cards.card();
        CHECK.due("wrong", x.change(OTHER, OTHER), WRONG);
        CHECK.due("page", x.page(), 0);
        CHECK.due("operations", x.operations(), 1);
        CHECK.due("free", x.free(), 9);
        CHECK.due("tries", x.tries(), 2);
        CHECK.due("the PIN is the old one", x.verify(PIN), RIGHT);
        TornTryCounter y = Cards.full();
        CHECK.due("wrong on a full page", y.change(OTHER, OTHER), WRONG);
        CHECK.due("turned once, to mark", y.generation(), 1);
        CHECK.due("right on a full page", Cards.full().change(PIN, OTHER), RIGHT);
        TornTryCounter z = Cards.full();
        z.change(PIN, OTHER);
        CHECK.due("turned twice", z.generation(), 2);
        CHECK.due("free", z.free(), 10);
        CHECK.due("page", z.page(), 0);
        CHECK.due("the new PIN", z.verify(OTHER), RIGHT);
    }

    private static void changeGivesPinTriesBack() {
        CHECK.says("3: a = 0");
        for (int used = 0; used <= 6; used++) {
            TornTryCounter x = Cards.wide();
            Cards.wrong(x, used);
            CHECK.due("right behind " + used, x.change(PIN, OTHER), RIGHT);
            CHECK.due("tries behind " + used, x.tries(), 7);
            TornTryCounter y = Cards.wide();
            Cards.right(y, 10 - used);
            Cards.wrong(y, used);
            CHECK.due("right on a full page behind " + used, y.change(PIN, OTHER), RIGHT);
            CHECK.due("tries on a full page behind " + used, y.tries(), 7);
        }
    }

    private static void changeKeepsPukTriesUsed() {
        CHECK.says("3: and b the PUK tries used");
        for (int used = 0; used <= 7; used++) {
            TornTryCounter x = Cards.wide();
            Cards.wrongPuk(x, used);
            CHECK.due("right", x.change(PIN, PIN), RIGHT);
            CHECK.due("puks, used " + used, x.puks(), 7 - used);
            CHECK.due("right again", x.change(PIN, PIN), RIGHT);
            CHECK.due("puks again, used " + used, x.puks(), 7 - used);
            CHECK.due("unblock, used " + used, x.unblock(NO_PUK, 1), used == 7 ? LOCKED : WRONG);
            CHECK.due("puks behind it, used " + used, x.puks(), used == 7 ? 0 : 6 - used);
        }
    }

    private static void changeAnswers() {
        CHECK.says("3: DOWN, LOCKED, LOST, WRONG, or RIGHT: the holder is in.");
        TornTryCounter x = Cards.card();
        CHECK.due("right", x.change(PIN, PIN), RIGHT);
        CHECK.due("in, right", x.in(), true);
        CHECK.due("wrong", x.change(OTHER, PIN), WRONG);
        CHECK.due("in, wrong", x.in(), false);
        CHECK.due("right", x.change(PIN, PIN), RIGHT);
        x.arm(10, 255);
        CHECK.due("lost", x.change(PIN, PIN), LOST);
        CHECK.due("in, lost", x.in(), false);
        CHECK.due("down", x.change(PIN, PIN), DOWN);
        CHECK.due("in, down", x.in(), false);
        x.start();
        Cards.wrong(x, 3);
        CHECK.due("locked", x.change(PIN, PIN), LOCKED);
        CHECK.due("in, locked", x.in(), false);
        x.cut();
        CHECK.due("down and locked", x.change(PIN, PIN), DOWN);
    }

    private static void changeLost() {
        CHECK.says("3: LOST: the old PIN or the new one, and nobody in");
        for (int n = 1; n <= 10; n++) {
            TornTryCounter x = Cards.card();
            Cards.wrong(x, 1);
            x.arm(n, 0);
            boolean whole = n == 10;
            CHECK.due("torn at " + n, x.change(PIN, OTHER), whole ? RIGHT : LOST);
            CHECK.due("in, torn at " + n, x.in(), whole);
            CHECK.due("up, torn at " + n, x.up(), whole);
            CHECK.due("page, torn at " + n, x.page(), whole ? 1 : 0);
            CHECK.due("tries, torn at " + n, x.tries(), n == 1 ? 2 : n == 2 ? 1 : 3);
            x.arm(0, 0);
            x.start();
            CHECK.due("the number, torn at " + n, x.verify(whole ? OTHER : PIN), RIGHT);
        }
        TornTryCounter x = Cards.card();
        x.arm(9, 165);
        CHECK.due("torn, but the page is good", x.change(PIN, OTHER), LOST);
        CHECK.due("turned", x.page(), 1);
        CHECK.due("nobody in", x.in(), false);
        x.start();
        CHECK.due("the new number", x.verify(OTHER), RIGHT);
    }

    private static void promise4() {
        unblockDown();
        unblockLocked();
        unblockPutsTheHolderOut();
        unblockMarksFirst();
        unblockIsNotThePuk();
        unblockTakes16Bits();
        unblockGivesBothBack();
        unblockOnAFullPage();
        unblockLost();
    }

    private static void unblockDown() {
        CHECK.says("4: DOWN");
        TornTryCounter x = new TornTryCounter(PIN, PUK, 3, 1);
        x.cut();
        CHECK.due("down", x.unblock(PUK, 1), DOWN);
        CHECK.due("down, wrong", x.unblock(NO_PUK, 1), DOWN);
        CHECK.due("puks", x.puks(), 1);
        x.start();
        Cards.wrongPuk(x, 1);
        x.cut();
        CHECK.due("down and locked", x.unblock(PUK, 1), DOWN);
        x.start();
        CHECK.due("locked", x.unblock(PUK, 1), LOCKED);
    }

    private static void unblockLocked() {
        CHECK.says("4: LOCKED when the PUK tries used are the PUK limit or more.");
        for (int limit = 1; limit <= 7; limit++) {
            TornTryCounter x = new TornTryCounter(PIN, PUK, 3, limit);
            Cards.wrongPuk(x, limit - 1);
            CHECK.due("the last try of " + limit, x.unblock(PUK, PIN), RIGHT);
            Cards.wrongPuk(x, limit);
            CHECK.due("in by the PIN, limit " + limit, x.verify(PIN), RIGHT);
            int before = x.operations();
            int free = x.free();
            CHECK.due("none left of " + limit, x.unblock(PUK, OTHER), LOCKED);
            CHECK.due("none left of " + limit + ", wrong", x.unblock(NO_PUK, OTHER), LOCKED);
            CHECK.due("operations, none left of " + limit, x.operations(), before);
            CHECK.due("free, none left of " + limit, x.free(), free);
            CHECK.due("puks, none left of " + limit, x.puks(), 0);
            CHECK.due("in, none left of " + limit, x.in(), true);
            CHECK.due("the PIN, none left of " + limit, x.change(PIN, PIN), RIGHT);
            CHECK.due("locked by B, limit " + limit, x.unblock(PUK, OTHER), LOCKED);
        }
        TornTryCounter x = new TornTryCounter(PIN, PUK, 3, 1);
        Cards.wrong(x, 3);
        CHECK.due("a locked PIN does not lock the PUK", x.unblock(PUK, OTHER), RIGHT);
    }

    private static void unblockPutsTheHolderOut() {
        CHECK.says("4: Else the holder is no more in");
        TornTryCounter x = Cards.card();
        Cards.right(x, 1);
        CHECK.due("wrong", x.unblock(NO_PUK, 1), WRONG);
        CHECK.due("out by a wrong one", x.in(), false);
        Cards.right(x, 1);
        CHECK.due("right", x.unblock(PUK, PIN), RIGHT);
        CHECK.due("out by a right one", x.in(), false);
        Cards.right(x, 1);
        x.arm(1, 0);
        CHECK.due("lost", x.unblock(PUK, PIN), LOST);
        CHECK.due("out by a lost one", x.in(), false);
        TornTryCounter y = Cards.card();
        CHECK.due("right", y.unblock(PUK, PIN), RIGHT);
        CHECK.due("nobody is let in", y.in(), false);
    }

    private static void unblockMarksFirst() {
        CHECK.says("4: and it is marked with 239");
        int[] tried = {PUK, NO_PUK};
        for (int puk : tried) {
            TornTryCounter x = Cards.card();
            Cards.wrong(x, 1);
            x.arm(1, 255);
            CHECK.due("a try is counted before it is compared: " + puk, x.unblock(puk, 1), LOST);
            CHECK.due("puks", x.puks(), 4);
            CHECK.due("tries", x.tries(), 2);
            CHECK.due("free", x.free(), 8);
        }
        TornTryCounter x = Cards.card();
        Cards.wrong(x, 2);
        Cards.wrongPuk(x, 1);
        CHECK.due("one operation", x.operations(), 3);
        CHECK.due("one PUK try", x.puks(), 4);
        CHECK.due("no PIN try taken or given back", x.tries(), 1);
    }

    private static void unblockIsNotThePuk() {
        CHECK.says("4: when puk is not the PUK, the answer is WRONG");
        for (int bit = 0; bit < 32; bit++) {
            TornTryCounter x = Cards.card();
            CHECK.due("bit " + bit + " off", x.unblock(PUK ^ 1 << bit, OTHER), WRONG);
            CHECK.due("puks, bit " + bit + " off", x.puks(), 4);
            CHECK.due("page, bit " + bit + " off", x.page(), 0);
            CHECK.due("operations, bit " + bit + " off", x.operations(), 1);
            CHECK.due("PIN, bit " + bit + " off", x.verify(PIN), RIGHT);
        }
        CHECK.due("the PIN is no PUK", Cards.card().unblock(PIN, OTHER), WRONG);
        CHECK.due("lower bits alone", Cards.card().unblock(PUK & 0xFFFF, OTHER), WRONG);
        CHECK.due("0 is no PUK", Cards.card().unblock(0, OTHER), WRONG);
    }

    private static void unblockTakes16Bits() {
        CHECK.says("4: else the page is turned with the lowest 16 bits of next");
        int[] nexts = {0, 1, -1, 0x12340009, 0xFFFF, 0x10000, PIN, Integer.MIN_VALUE, Integer.MAX_VALUE};
        for (int next : nexts) {
            TornTryCounter x = Cards.card();
            CHECK.due("with " + next, x.unblock(PUK, next), RIGHT);
            CHECK.due("operations, with " + next, x.operations(), 8);
            CHECK.due("page, with " + next, x.page(), 1);
            CHECK.due("generation, with " + next, x.generation(), 1);
            CHECK.due("free, with " + next, x.free(), 10);
            CHECK.due("the new number " + next, x.verify(next & 0xFFFF), RIGHT);
            CHECK.due("one bit off " + next, x.verify(next ^ 0x8000), WRONG);
            CHECK.due("the old number, with " + next, x.verify(PIN), next == PIN ? RIGHT : WRONG);
        }
    }

    private static void unblockGivesBothBack() {
        CHECK.says("4: a = 0, b = 0, and the answer is RIGHT.");
        for (int used = 0; used <= 7; used++) {
            for (int puks = 0; puks <= 6; puks++) {
                TornTryCounter x = Cards.wide();
                Cards.wrong(x, used);
                Cards.wrongPuk(x, puks);
                String where = " behind " + used + " and " + puks;
                CHECK.due("right" + where, x.unblock(PUK, PIN), RIGHT);
                CHECK.due("tries" + where, x.tries(), 7);
                CHECK.due("puks" + where, x.puks(), 7);
                CHECK.due("verify" + where, x.verify(PIN), RIGHT);
            }
        }
    }

    private static void unblockOnAFullPage() {
        CHECK.says("4: it is marked with 239; ... else the page is turned: a full page is turned twice");
        TornTryCounter x = Cards.wide();
        Cards.wrongPuk(x, 2);
        Cards.right(x, 1);
        Cards.wrong(x, 7);
        CHECK.due("wrong", x.unblock(NO_PUK, 1), WRONG);
        CHECK.due("page", x.page(), 1);
        CHECK.due("tries taken over", x.tries(), 0);
        CHECK.due("puks taken over", x.puks(), 4);
        CHECK.due("free", x.free(), 9);
        TornTryCounter y = Cards.full();
        CHECK.due("right: 7 and 1 and 8", Cards.cost(y, z -> z.unblock(PUK, OTHER)), 16);
        CHECK.due("page", y.page(), 0);
        CHECK.due("generation", y.generation(), 2);
        CHECK.due("erased(0)", y.erased(0), 1);
        CHECK.due("erased(1)", y.erased(1), 1);
        CHECK.due("free", y.free(), 10);
        CHECK.due("the new number", y.verify(OTHER), RIGHT);
    }

    private static void unblockLost() {
        CHECK.says("4: LOST, when the power was.");
        for (int n = 1; n <= 9; n++) {
            TornTryCounter x = Cards.card();
            Cards.right(x, 1);
            x.arm(n, 0);
            boolean whole = n == 9;
            CHECK.due("torn at " + n, x.unblock(PUK, OTHER), whole ? RIGHT : LOST);
            CHECK.due("in, torn at " + n, x.in(), false);
            CHECK.due("up, torn at " + n, x.up(), whole);
            CHECK.due("page, torn at " + n, x.page(), whole ? 1 : 0);
            CHECK.due("puks, torn at " + n, x.puks(), n == 1 || whole ? 5 : 4);
        }
    }

    private static void promise5() {
        armTheNth();
        armIsTornOnce();
        armCountsOperations();
        armWithAMask();
        armWhateverWasArmed();
        armNone();
        armNOutside();
        armMaskOutside();
        armFortyTimes();
        armNoneBehindForty();
        armWhenDown();
    }

    private static void armTheNth() {
        CHECK.says("5: The n-th operation from now on (1: the next one) will be torn with a mask");
        for (int before = 0; before <= 3; before++) {
            for (int n = 1; n <= 30; n++) {
                TornTryCounter x = Cards.wide();
                Cards.right(x, before);
                CHECK.due("arm(" + n + ", 0)", x.arm(n, 0), true);
                for (int i = 0; i < 30 && x.up(); i++) {
                    x.verify(PIN);
                }
                CHECK.due("arm(" + n + ", 0) behind " + before, x.operations(), 2 * before + n);
                CHECK.due("down by arm(" + n + ", 0)", x.up(), false);
            }
        }
    }

    private static void armIsTornOnce() {
        CHECK.says("5: The n-th operation from now on will be torn: that one alone");
        for (int n = 1; n <= 30; n++) {
            TornTryCounter x = Cards.wide();
            x.arm(n, 0);
            for (int i = 0; i < 30 && x.up(); i++) {
                x.verify(PIN);
            }
            x.start();
            for (int i = 1; i <= 40; i++) {
                CHECK.due("arm(" + n + ", 0) long ago, verify " + i, x.verify(PIN), RIGHT);
            }
        }
    }

    private static void armCountsOperations() {
        CHECK.says("5: The n-th operation from now on: what is no operation does not count");
        TornTryCounter x = new TornTryCounter(PIN, PUK, 3, 1);
        x.arm(3, 0);
        CHECK.due("operation 1", x.unblock(NO_PUK, 1), WRONG);
        CHECK.due("a locked call is none", x.unblock(PUK, 1), LOCKED);
        CHECK.due("a refused arm is none", x.arm(31, 0), false);
        CHECK.due("a refused start is none", x.start(), false);
        Cards.sight(x);
        CHECK.due("a cut is none", x.cut(), true);
        CHECK.due("a refused cut is none", x.cut(), false);
        CHECK.due("a call when down is none", x.verify(PIN), DOWN);
        CHECK.due("a start is none", x.start(), true);
        CHECK.due("operation 2", x.verify(OTHER), WRONG);
        CHECK.due("operation 3", x.verify(OTHER), LOST);
        CHECK.due("with nothing done", x.tries(), 2);
        CHECK.due("operations", x.operations(), 3);
    }

    private static void armWithAMask() {
        CHECK.says("5: will be torn with a mask");
        for (int mask = 0; mask <= 255; mask++) {
            TornTryCounter x = Cards.card();
            CHECK.due("arm(2, " + mask + ")", x.arm(2, mask), true);
            x.verify(OTHER);
            CHECK.due("torn with " + mask, x.verify(PIN), LOST);
            CHECK.due("tries, torn with " + mask, x.tries(), (mask & 1) == 1 ? 1 : 2);
            x.start();
            CHECK.due("arm(1, " + (255 - mask) + ")", x.arm(1, 255 - mask), true);
            CHECK.due("torn with " + (255 - mask), x.verify(PIN), LOST);
            CHECK.due("tries, torn with both", x.tries(), 1);
        }
    }

    private static void armWhateverWasArmed() {
        CHECK.says("5: whatever was armed before");
        TornTryCounter x = Cards.wide();
        x.arm(1, 0);
        x.arm(3, 255);
        CHECK.due("the later one, farther: operation 1", x.verify(OTHER), WRONG);
        CHECK.due("the later one, farther: operation 2", x.verify(OTHER), WRONG);
        CHECK.due("the later one, farther: operation 3", x.verify(OTHER), LOST);
        CHECK.due("with its mask", x.tries(), 4);
        x.start();
        x.arm(3, 255);
        x.arm(1, 0);
        CHECK.due("the later one, nearer: operation 1", x.verify(OTHER), LOST);
        CHECK.due("with its mask", x.tries(), 4);
        x.start();
        CHECK.due("the earlier one is armed no more", x.verify(OTHER), WRONG);
        CHECK.due("the earlier one is armed no more", x.verify(OTHER), WRONG);
        x.arm(2, 0);
        CHECK.due("operation 1", x.verify(OTHER), WRONG);
        x.arm(2, 255);
        CHECK.due("counted anew: right takes 2", x.verify(PIN), LOST);
        CHECK.due("with its mask", x.tries(), 7);
    }

    private static void armNone() {
        CHECK.says("5: n = 0: none will be.");
        int[] masks = {0, 1, 254, 255};
        for (int mask : masks) {
            TornTryCounter x = Cards.wide();
            CHECK.due("arm(0, " + mask + ") on a new card", x.arm(0, mask), true);
            Cards.right(x, 1);
            CHECK.due("in", x.in(), true);
            x.arm(1, 0);
            CHECK.due("arm(0, " + mask + ")", x.arm(0, mask), true);
            for (int i = 1; i <= 30; i++) {
                CHECK.due("verify " + i + " behind arm(0, " + mask + ")", x.verify(PIN), RIGHT);
            }
        }
    }

    private static void armNOutside() {
        CHECK.says("5: False, changing nothing, when n is not 0 .. 30");
        int[] outside = {Integer.MIN_VALUE, -256, -31, -30, -2, -1, 31, 32, 60, 256, 257, 286,
            65537, Integer.MAX_VALUE};
        for (int n : outside) {
            TornTryCounter x = Cards.card();
            x.arm(2, 0);
            CHECK.due("arm(" + n + ", 3)", x.arm(n, 3), false);
            CHECK.due("armed still: operation 1", x.verify(OTHER), WRONG);
            CHECK.due("armed still: operation 2", x.verify(OTHER), LOST);
            CHECK.due("armed still with its mask", x.tries(), 2);
            TornTryCounter y = Cards.wide();
            CHECK.due("arm(" + n + ", 255) on a new card", y.arm(n, 255), false);
            for (int i = 0; i < 40; i++) {
                CHECK.due("nothing is armed by arm(" + n + ", 255)", y.verify(PIN), RIGHT);
            }
        }
        for (int n = 0; n <= 30; n++) {
            CHECK.due("arm(" + n + ", 3)", Cards.card().arm(n, 3), true);
        }
    }

    private static void armMaskOutside() {
        CHECK.says("5: False, changing nothing, when ... mask is not 0 .. 255");
        int[] outside = {Integer.MIN_VALUE, -256, -255, -2, -1, 256, 257, 511, 65536, Integer.MAX_VALUE};
        int[] ns = {0, 1, 2, 30};
        for (int mask : outside) {
            for (int n : ns) {
                TornTryCounter x = Cards.card();
                x.arm(2, 0);
                CHECK.due("arm(" + n + ", " + mask + ")", x.arm(n, mask), false);
                CHECK.due("armed still: operation 1", x.verify(OTHER), WRONG);
                CHECK.due("armed still: operation 2", x.verify(OTHER), LOST);
                CHECK.due("armed still with its mask", x.tries(), 2);
            }
        }
        for (int mask = 0; mask <= 255; mask++) {
            CHECK.due("arm(0, " + mask + ")", Cards.card().arm(0, mask), true);
            CHECK.due("arm(30, " + mask + ")", Cards.card().arm(30, mask), true);
        }
    }

    private static void armFortyTimes() {
        CHECK.says("5: or n is not 0 and 40 calls with n above 0 were answered true before.");
        TornTryCounter x = Cards.wide();
        for (int i = 1; i <= 40; i++) {
            CHECK.due("a refused n does not count", x.arm(31, 0), false);
            CHECK.due("a refused mask does not count", x.arm(1, 256), false);
            CHECK.due("n = 0 does not count", x.arm(0, 0), true);
            CHECK.due("number " + i, x.arm(i == 40 ? 2 : 1 + i % 30, 0), true);
        }
        CHECK.due("number 41", x.arm(1, 255), false);
        CHECK.due("number 42", x.arm(30, 0), false);
        CHECK.due("number 40 is armed still: operation 1", x.verify(OTHER), WRONG);
        CHECK.due("number 40 is armed still: operation 2", x.verify(OTHER), LOST);
        CHECK.due("with its mask", x.tries(), 6);
        CHECK.due("behind a loss", x.arm(1, 0), false);
        x.start();
        CHECK.due("behind a start", x.arm(1, 0), false);
        CHECK.due("nothing is armed", x.verify(PIN), RIGHT);
        CHECK.due("behind a try", x.arm(30, 255), false);
    }

    private static void armNoneBehindForty() {
        CHECK.says("5: or n is not 0 and 40 calls with n above 0 were answered true before: n is 0");
        TornTryCounter x = Cards.wide();
        for (int i = 1; i <= 40; i++) {
            x.arm(1, 0);
        }
        CHECK.due("arm(0, 256)", x.arm(0, 256), false);
        CHECK.due("arm(0, 7)", x.arm(0, 7), true);
        CHECK.due("none is armed", x.verify(PIN), RIGHT);
        CHECK.due("arm(0, 255) again", x.arm(0, 255), true);
        CHECK.due("arm(1, 255) behind it", x.arm(1, 255), false);
        CHECK.due("arm(-1, 255) behind it", x.arm(-1, 255), false);
        TornTryCounter y = Cards.card();
        for (int i = 1; i <= 41; i++) {
            CHECK.due("arm(0, 0) as often as one likes: " + i, y.arm(0, 0), true);
        }
        CHECK.due("and then arm(1, 0)", y.arm(1, 0), true);
    }

    private static void armWhenDown() {
        CHECK.says("5: False, changing nothing, when ...: a card that is down is not among it");
        TornTryCounter x = Cards.card();
        x.cut();
        CHECK.due("arm(1, 255) when down", x.arm(1, 255), true);
        CHECK.due("up", x.up(), false);
        x.start();
        CHECK.due("torn", x.verify(PIN), LOST);
        CHECK.due("tries", x.tries(), 2);
        CHECK.due("arm(1, 0) when down by a tear", x.arm(1, 0), true);
        CHECK.due("arm(0, 0) when down by a tear", x.arm(0, 0), true);
        x.start();
        CHECK.due("not torn", x.verify(PIN), RIGHT);
    }

    private static void promises6To9() {
        cutWhenUp();
        cutIsBetweenTwoOperations();
        cutWhenDown();
        startWhenDown();
        startWhenUp();
        whetherTheHolderIsIn();
        whetherTheCardIsUp();
    }

    private static void cutWhenUp() {
        CHECK.says("6: The power is lost");
        TornTryCounter x = Cards.card();
        Cards.right(x, 1);
        CHECK.due("cut", x.cut(), true);
        CHECK.due("up", x.up(), false);
        CHECK.due("in", x.in(), false);
        x.start();
        CHECK.due("cut again", x.cut(), true);
    }

    private static void cutIsBetweenTwoOperations() {
        CHECK.says("6: between two operations");
        TornTryCounter x = Cards.turned();
        Cards.wrong(x, 2);
        Cards.wrongPuk(x, 3);
        x.arm(1, 255);
        int[] before = Cards.sight(x);
        CHECK.due("cut", x.cut(), true);
        int[] after = Cards.sight(x);
        for (int i = 2; i < before.length; i++) {
            CHECK.due("question " + i, after[i], before[i]);
        }
        x.start();
        CHECK.due("what is armed counts operations, and stays", x.verify(PIN), LOST);
        CHECK.due("torn with its mask", x.tries(), 4);
    }

    private static void cutWhenDown() {
        CHECK.says("6: false when the card is down.");
        TornTryCounter x = Cards.card();
        x.cut();
        CHECK.due("cut when down", x.cut(), false);
        CHECK.due("up", x.up(), false);
        x.start();
        x.arm(1, 0);
        x.verify(PIN);
        CHECK.due("cut when down by a tear", x.cut(), false);
        CHECK.due("up", x.up(), false);
        CHECK.due("start", x.start(), true);
    }

    private static void startWhenDown() {
        CHECK.says("7: A card that is down comes up");
        TornTryCounter x = Cards.turned();
        x.cut();
        int[] before = Cards.sight(x);
        CHECK.due("start", x.start(), true);
        CHECK.due("up", x.up(), true);
        CHECK.due("in", x.in(), false);
        int[] after = Cards.sight(x);
        for (int i = 2; i < before.length; i++) {
            CHECK.due("question " + i, after[i], before[i]);
        }
        CHECK.due("and it works", x.verify(PIN), RIGHT);
        x.arm(2, 0);
        x.verify(PIN);
        CHECK.due("start behind a tear", x.start(), true);
        CHECK.due("up", x.up(), true);
        CHECK.due("and it works", x.verify(PIN), RIGHT);
    }

    private static void startWhenUp() {
        CHECK.says("7: false when it is up.");
        TornTryCounter x = Cards.card();
        CHECK.due("start", x.start(), false);
        CHECK.due("up", x.up(), true);
        Cards.right(x, 1);
        CHECK.due("start with the holder in", x.start(), false);
        CHECK.due("in", x.in(), true);
        x.cut();
        x.start();
        CHECK.due("start a second time", x.start(), false);
        CHECK.due("up", x.up(), true);
    }

    private static void whetherTheHolderIsIn() {
        CHECK.says("8: Whether the holder is in.");
        TornTryCounter x = Cards.card();
        CHECK.due("at first", x.in(), false);
        Cards.right(x, 1);
        CHECK.due("by verify", x.in(), true);
        x.arm(0, 0);
        x.arm(31, 0);
        x.arm(30, 0);
        Cards.sight(x);
        CHECK.due("asking and arming put nobody out", x.in(), true);
        x.change(PIN, OTHER);
        CHECK.due("by change", x.in(), true);
        x.change(PIN, OTHER);
        CHECK.due("out by a wrong change", x.in(), false);
        x.change(OTHER, PIN);
        CHECK.due("by change again", x.in(), true);
        x.cut();
        CHECK.due("out by a cut", x.in(), false);
        x.start();
        CHECK.due("out still", x.in(), false);
    }

    private static void whetherTheCardIsUp() {
        CHECK.says("9: Whether the card is up.");
        TornTryCounter x = Cards.card();
        CHECK.due("at first", x.up(), true);
        Cards.wrong(x, 4);
        CHECK.due("locked", x.up(), true);
        x.cut();
        CHECK.due("cut", x.up(), false);
        x.unblock(PUK, PIN);
        CHECK.due("a call does not bring it up", x.up(), false);
        x.start();
        CHECK.due("started", x.up(), true);
        x.arm(1, 255);
        CHECK.due("armed", x.up(), true);
        x.unblock(PUK, PIN);
        CHECK.due("torn", x.up(), false);
    }

    private static void promises10And11() {
        triesLeft();
        triesNotLessThan0();
        triesWhenDown();
        puksLeft();
        puksWhenDown();
    }

    private static void triesLeft() {
        CHECK.says("10: How many PIN tries are left: the limit less those used");
        for (int limit = 1; limit <= 7; limit++) {
            TornTryCounter x = new TornTryCounter(PIN, PUK, limit, 5);
            for (int used = 0; used <= limit; used++) {
                CHECK.due("limit " + limit + ", used " + used, x.tries(), limit - used);
                Cards.wrong(x, 1);
            }
        }
    }

    private static void triesNotLessThan0() {
        CHECK.says("10: but not less than 0");
        TornTryCounter x = Cards.card();
        Cards.wrong(x, 5);
        CHECK.due("behind five wrong tries", x.tries(), 0);
        x.arm(1, 255);
        x.verify(OTHER);
        CHECK.due("behind a locked try that was armed", x.tries(), 0);
        x.unblock(NO_PUK, 1);
        CHECK.due("behind an unblock that was torn", x.tries(), 0);
        TornTryCounter y = Cards.card();
        Cards.wrong(y, 2);
        y.arm(1, 255);
        y.verify(PIN);
        y.start();
        CHECK.due("behind a torn last try", y.tries(), 0);
        CHECK.due("locked", y.verify(PIN), LOCKED);
    }

    private static void triesWhenDown() {
        CHECK.says("10: as the flash is, also when the card is down.");
        for (int used = 0; used <= 3; used++) {
            TornTryCounter x = Cards.card();
            Cards.wrong(x, used);
            x.cut();
            CHECK.due("used " + used, x.tries(), 3 - used);
            Cards.wrong(x, 1);
            CHECK.due("a call when down takes none", x.tries(), 3 - used);
            x.start();
            CHECK.due("started, used " + used, x.tries(), 3 - used);
        }
        TornTryCounter x = Cards.card();
        x.arm(1, 1);
        x.verify(PIN);
        CHECK.due("down by a tear that counted", x.tries(), 2);
    }

    private static void puksLeft() {
        CHECK.says("11: How many PUK tries are left");
        for (int limit = 1; limit <= 7; limit++) {
            TornTryCounter x = new TornTryCounter(PIN, PUK, 3, limit);
            for (int used = 0; used <= limit; used++) {
                CHECK.due("limit " + limit + ", used " + used, x.puks(), limit - used);
                Cards.wrongPuk(x, 1);
            }
            Cards.wrongPuk(x, 2);
            CHECK.due("limit " + limit + ", not less than 0", x.puks(), 0);
        }
    }

    private static void puksWhenDown() {
        CHECK.says("11: likewise.");
        for (int used = 0; used <= 5; used++) {
            TornTryCounter x = Cards.card();
            Cards.wrongPuk(x, used);
            x.cut();
            CHECK.due("used " + used, x.puks(), 5 - used);
            Cards.wrongPuk(x, 1);
            CHECK.due("a call when down takes none", x.puks(), 5 - used);
            x.start();
            CHECK.due("started, used " + used, x.puks(), 5 - used);
        }
        TornTryCounter x = Cards.card();
        x.arm(1, 16);
        x.unblock(PUK, 1);
        CHECK.due("down by a tear that counted", x.puks(), 4);
    }

    private static void promises12To14() {
        whichPageIsActive();
        generationOfTheActivePage();
        freeOfTheActivePage();
    }

    private static void whichPageIsActive() {
        CHECK.says("12: Which page is active.");
        for (int turns = 0; turns <= 5; turns++) {
            TornTryCounter x = Cards.old(turns);
            CHECK.due("after " + turns, x.page(), turns & 1);
            x.cut();
            CHECK.due("when down after " + turns, x.page(), turns & 1);
            x.start();
            x.arm(7, 255);
            x.change(PIN, OTHER);
            CHECK.due("when down amid a turn after " + turns, x.page(), turns & 1);
        }
    }

    private static void generationOfTheActivePage() {
        CHECK.says("13: The generation of the active page.");
        for (int turns = 0; turns <= 5; turns++) {
            TornTryCounter x = Cards.old(turns);
            CHECK.due("after " + turns, x.generation(), turns);
            x.cut();
            CHECK.due("when down after " + turns, x.generation(), turns);
            x.start();
            x.arm(7, 255);
            x.change(PIN, OTHER);
            CHECK.due("when down amid a turn after " + turns, x.generation(), turns);
        }
        CHECK.due("after 255", Cards.old(255).generation(), 255);
        CHECK.due("after 256", Cards.old(256).generation(), 0);
        CHECK.due("after 300", Cards.old(300).generation(), 44);
    }

    private static void freeOfTheActivePage() {
        CHECK.says("14: How many entries of the active page are free.");
        for (int turns = 0; turns <= 2; turns++) {
            for (int used = 0; used <= 10; used++) {
                TornTryCounter x = Cards.old(turns);
                Cards.right(x, used);
                CHECK.due("used " + used + " after " + turns, x.free(), 10 - used);
                x.cut();
                CHECK.due("when down, used " + used + " after " + turns, x.free(), 10 - used);
            }
        }
        TornTryCounter x = Cards.wide();
        Cards.right(x, 4);
        x.arm(2 + 7, 254);
        x.change(PIN, OTHER);
        CHECK.due("not those of the page that is being made", x.free(), 5);
    }

    private static void promises15And16() {
        operationsThereWere();
        operationsTornIncluded();
        erasedAPage();
        erasedTornIncluded();
        erasedNoPage();
    }

    private static void operationsThereWere() {
        CHECK.says("15: How many operations there were");
        TornTryCounter x = Cards.card();
        CHECK.due("none", x.operations(), 0);
        Cards.wrong(x, 1);
        CHECK.due("one", x.operations(), 1);
        x.cut();
        Cards.wrong(x, 1);
        CHECK.due("when down", x.operations(), 1);
        x.start();
        CHECK.due("one to mark, seven to turn", Cards.cost(x, y -> y.unblock(PUK, PIN)), 8);
        CHECK.due("one to mark, eight to turn", Cards.cost(x, y -> y.unblock(PUK, PIN)), 9);
        CHECK.due("all of them", x.operations(), 18);
        CHECK.due("more than 255", Cards.old(300).operations(), 300 * 10 - 1);
    }

    private static void operationsTornIncluded() {
        CHECK.says("15: torn ones included.");
        int[] masks = {0, 255};
        for (int mask : masks) {
            TornTryCounter x = Cards.card();
            x.arm(1, mask);
            x.verify(PIN);
            CHECK.due("a torn program, mask " + mask, x.operations(), 1);
            x.start();
            x.arm(2, mask);
            x.unblock(PUK, PIN);
            CHECK.due("a torn erase, mask " + mask, x.operations(), 3);
        }
    }

    private static void erasedAPage() {
        CHECK.says("16: How often a page was erased");
        for (int turns = 0; turns <= 5; turns++) {
            TornTryCounter x = Cards.old(turns);
            CHECK.due("erased(0) after " + turns, x.erased(0), turns / 2);
            CHECK.due("erased(1) after " + turns, x.erased(1), (turns + 1) / 2);
            x.cut();
            CHECK.due("erased(0) when down after " + turns, x.erased(0), turns / 2);
            CHECK.due("erased(1) when down after " + turns, x.erased(1), (turns + 1) / 2);
        }
        TornTryCounter x = Cards.wide();
        x.arm(2, 255);
        x.change(PIN, OTHER);
        CHECK.due("not yet erased", x.erased(1), 0);
    }

    private static void erasedTornIncluded() {
        CHECK.says("16: torn erases included");
        int[] masks = {0, 90, 255};
        for (int mask : masks) {
            TornTryCounter x = Cards.turned();
            x.arm(4, mask);
            CHECK.due("torn with " + mask, x.change(PIN, OTHER), LOST);
            CHECK.due("erased(0), torn with " + mask, x.erased(0), 1);
            CHECK.due("erased(1), torn with " + mask, x.erased(1), 1);
            x.start();
            x.arm(3, mask);
            CHECK.due("torn again with " + mask, x.change(PIN, OTHER), LOST);
            CHECK.due("erased(0), torn again with " + mask, x.erased(0), 2);
        }
    }

    private static void erasedNoPage() {
        CHECK.says("16: 0 when page is not 0 or 1.");
        TornTryCounter x = Cards.old(6);
        for (int page : ODD) {
            CHECK.due("erased(" + page + ")", x.erased(page), 0);
        }
        for (int page = 2; page <= 40; page++) {
            CHECK.due("erased(" + page + ")", x.erased(page), 0);
        }
        CHECK.due("erased(0)", x.erased(0), 3);
        CHECK.due("erased(1)", x.erased(1), 3);
    }
}
