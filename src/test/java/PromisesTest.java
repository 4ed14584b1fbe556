/** Each promise by itself: ordinary inputs, the edges that the document names, and wrong inputs. */
public final class PromisesTest {
    private static final Check CHECK = new Check("PromisesTest");
    private static final int DOWN = TornTryCounter.DOWN;
    private static final int LOCKED = TornTryCounter.LOCKED;
    private static final int LOST = TornTryCounter.LOST;
    private static final int WRONG = TornTryCounter.WRONG;
    private static final int RIGHT = TornTryCounter.RIGHT;
    private static final int PIN = 1234;
    private static final int PUK = 777777;

    public static void main(String[] args) {
        promise1();
        promise1Limits();
        promise1Numbers();
        promise2();
        promise2Locked();
        promise2Torn();
        promise2FullPage();
        promise3();
        promise3Refused();
        promise3KeepsPukTries();
        promise3Torn();
        promise4();
        promise4Locked();
        promise4FullPage();
        promise4Torn();
        promise5Refused();
        promise5AtMost40();
        promise5Counts();
        promise5Replaces();
        promise5Erase();
        promise6And7And9();
        promise8();
        promise10And11();
        promise12And13();
        promise13BehindOf255();
        promise14();
        promise15();
        promise16();
        CHECK.end();
    }

    private static TornTryCounter card() {
        return new TornTryCounter(PIN, PUK, 3, 5);
    }

    private static void times(TornTryCounter x, int n, int pin, int want) {
        for (int i = 1; i <= n; i++) {
            CHECK.due("verify(" + pin + ") number " + i, x.verify(pin), want);
        }
    }

    private static void promise1() {
        TornTryCounter x = card();
        CHECK.due("1: up", x.up(), true);
        CHECK.due("1: in", x.in(), false);
        CHECK.due("1: tries", x.tries(), 3);
        CHECK.due("1: puks", x.puks(), 5);
        CHECK.due("1: page", x.page(), 0);
        CHECK.due("1: generation", x.generation(), 0);
        CHECK.due("1: free", x.free(), 10);
        CHECK.due("1: operations", x.operations(), 0);
        CHECK.due("1: erased(0)", x.erased(0), 0);
        CHECK.due("1: erased(1)", x.erased(1), 0);
        for (int i = 0; i < 20; i++) {
            CHECK.due("1: nothing is armed", x.verify(PIN), RIGHT);
        }
    }

    private static void promise1Limits() {
        int[] odd = {Integer.MIN_VALUE, -1, 0, 8, 9, 259, Integer.MAX_VALUE};
        for (int limit : odd) {
            TornTryCounter x = new TornTryCounter(PIN, PUK, limit, limit);
            CHECK.due("1: tries with limit " + limit, x.tries(), 3);
            CHECK.due("1: puks with limit " + limit, x.puks(), 5);
        }
        for (int limit = 1; limit <= 7; limit++) {
            TornTryCounter x = new TornTryCounter(PIN, PUK, limit, 8 - limit);
            CHECK.due("1: tries with limit " + limit, x.tries(), limit);
            CHECK.due("1: puks with limit " + (8 - limit), x.puks(), 8 - limit);
            times(x, limit, 1, WRONG);
            times(x, 1, PIN, LOCKED);
        }
    }

    private static void promise1Numbers() {
        TornTryCounter x = new TornTryCounter(0xABC1A34F, 0x80010002, 7, 7);
        CHECK.due("1: lowest 16 bits", x.verify(0xA34F), RIGHT);
        CHECK.due("1: all of the 16 bits", x.verify(0x234F), WRONG);
        CHECK.due("1: 0 is no master number", x.verify(0), WRONG);
        CHECK.due("1: lower byte alone", x.verify(0x4F), WRONG);
        CHECK.due("1: higher byte alone", x.verify(0xA300), WRONG);
        CHECK.due("1: bytes the other way", x.verify(0x4FA3), WRONG);
        CHECK.due("1: all 32 bits of the PUK", x.unblock(0x00010002, 1), WRONG);
        CHECK.due("1: all 32 bits of the PUK", x.unblock(2, 1), WRONG);
        CHECK.due("1: all 32 bits of the PUK", x.unblock(0x80010002, 1), RIGHT);
    }

    private static void promise2() {
        TornTryCounter x = card();
        CHECK.due("2: wrong", x.verify(1), WRONG);
        CHECK.due("2: wrong takes one operation", x.operations(), 1);
        CHECK.due("2: wrong takes a try", x.tries(), 2);
        CHECK.due("2: nobody in", x.in(), false);
        CHECK.due("2: right", x.verify(PIN), RIGHT);
        CHECK.due("2: right takes two operations", x.operations(), 3);
        CHECK.due("2: right gives the tries back", x.tries(), 3);
        CHECK.due("2: in", x.in(), true);
        CHECK.due("2: right takes one entry", x.free(), 8);
        CHECK.due("2: lowest 16 bits", x.verify(PIN | 0x70000), RIGHT);
        CHECK.due("2: lowest 16 bits", x.verify(PIN | 0xFFFF0000), RIGHT);
        CHECK.due("2: one bit off", x.verify(PIN ^ 0x8000), WRONG);
        CHECK.due("2: wrong puts the holder out", x.in(), false);
        x.cut();
        CHECK.due("2: down", x.verify(PIN), DOWN);
        CHECK.due("2: down does nothing", x.operations(), 8);
    }

    private static void promise2Locked() {
        TornTryCounter x = card();
        times(x, 3, 1, WRONG);
        CHECK.due("2: locked", x.verify(PIN), LOCKED);
        CHECK.due("2: locked", x.verify(1), LOCKED);
        CHECK.due("2: locked does nothing", x.operations(), 3);
        CHECK.due("2: locked takes no entry", x.free(), 7);
        CHECK.due("2: locked lets nobody in", x.in(), false);
        x.cut();
        CHECK.due("2: down goes before locked", x.verify(PIN), DOWN);
        x.start();
        CHECK.due("2: locked still", x.verify(PIN), LOCKED);
    }

    private static void promise2Torn() {
        TornTryCounter x = card();
        CHECK.due("2: in before", x.verify(PIN), RIGHT);
        x.arm(1, 254);
        CHECK.due("2: lost before the try is counted", x.verify(PIN), LOST);
        CHECK.due("2: down", x.up(), false);
        CHECK.due("2: out", x.in(), false);
        CHECK.due("2: not counted", x.tries(), 3);
        CHECK.due("2: entry still free", x.free(), 9);
        x.start();
        x.arm(1, 1);
        CHECK.due("2: lost when the try is counted", x.verify(PIN), LOST);
        CHECK.due("2: counted", x.tries(), 2);
        x.start();
        x.arm(2, 253);
        CHECK.due("2: lost before the try is given back", x.verify(PIN), LOST);
        CHECK.due("2: not given back", x.tries(), 1);
        CHECK.due("2: nobody in", x.in(), false);
        x.start();
        CHECK.due("2: nobody in after the start", x.in(), false);
        x.arm(2, 2);
        CHECK.due("2: lost when the try is given back", x.verify(PIN), LOST);
        CHECK.due("2: given back", x.tries(), 3);
        CHECK.due("2: but nobody in", x.in(), false);
        x.start();
        x.arm(2, 0);
        CHECK.due("2: a wrong number takes one operation", x.verify(1), WRONG);
        CHECK.due("2: so the next one is torn", x.verify(PIN), LOST);
        CHECK.due("2: with nothing done", x.tries(), 2);
    }

    private static void promise2FullPage() {
        TornTryCounter x = card();
        x.unblock(1, 1);
        x.unblock(2, 1);
        times(x, 6, PIN, RIGHT);
        times(x, 2, 1, WRONG);
        CHECK.due("2: full", x.free(), 0);
        CHECK.due("2: not yet turned", x.page(), 0);
        int before = x.operations();
        CHECK.due("2: wrong on a full page", x.verify(1), WRONG);
        CHECK.due("2: seven to turn and one to mark", x.operations() - before, 8);
        CHECK.due("2: turned", x.page(), 1);
        CHECK.due("2: PIN tries taken over", x.tries(), 0);
        CHECK.due("2: PUK tries taken over", x.puks(), 3);
        CHECK.due("2: locked", x.verify(PIN), LOCKED);
        CHECK.due("2: free", x.free(), 9);

        TornTryCounter y = card();
        times(y, 10, PIN, RIGHT);
        times(y, 10, PIN, RIGHT);
        before = y.operations();
        CHECK.due("2: right on a full page", y.verify(PIN), RIGHT);
        CHECK.due("2: eight to turn and two", y.operations() - before, 10);
        CHECK.due("2: turned back", y.page(), 0);
        CHECK.due("2: in", y.in(), true);
    }

    private static void promise3() {
        TornTryCounter x = card();
        CHECK.due("3: right", x.change(PIN, 0x7FFF4321), RIGHT);
        CHECK.due("3: in", x.in(), true);
        CHECK.due("3: two and seven operations", x.operations(), 9);
        CHECK.due("3: page", x.page(), 1);
        CHECK.due("3: generation", x.generation(), 1);
        CHECK.due("3: free", x.free(), 10);
        CHECK.due("3: the old number", x.verify(PIN), WRONG);
        CHECK.due("3: the new one", x.verify(0x4321), RIGHT);
        CHECK.due("3: the new one, more bits", x.change(0x10000 | 0x4321, 0xFFFF), RIGHT);
        CHECK.due("3: three and ten operations more", x.operations(), 22);
        CHECK.due("3: page", x.page(), 0);
        CHECK.due("3: to itself", x.change(0xFFFF, 0xFFFF), RIGHT);
        CHECK.due("3: turns even so", x.page(), 1);
        CHECK.due("3: to 0", x.change(-1, 0), RIGHT);
        CHECK.due("3: 0", x.verify(0), RIGHT);
    }

    private static void promise3Refused() {
        TornTryCounter x = card();
        x.verify(PIN);
        CHECK.due("3: wrong", x.change(1, 2), WRONG);
        CHECK.due("3: wrong takes a try", x.tries(), 2);
        CHECK.due("3: wrong puts the holder out", x.in(), false);
        CHECK.due("3: wrong turns nothing", x.page(), 0);
        CHECK.due("3: wrong takes one operation", x.operations(), 3);
        x.cut();
        CHECK.due("3: down", x.change(PIN, 2), DOWN);
        x.start();
        CHECK.due("3: wrong", x.change(1, 2), WRONG);
        CHECK.due("3: wrong", x.change(1, 2), WRONG);
        CHECK.due("3: locked", x.change(PIN, 2), LOCKED);
        CHECK.due("3: locked does nothing", x.operations(), 5);
        x.cut();
        CHECK.due("3: down goes before locked", x.change(PIN, 2), DOWN);
    }

    private static void promise3KeepsPukTries() {
        TornTryCounter x = card();
        x.unblock(1, 1);
        x.unblock(1, 1);
        times(x, 2, 1, WRONG);
        CHECK.due("3: right", x.change(PIN, 5), RIGHT);
        CHECK.due("3: PIN tries given back", x.tries(), 3);
        CHECK.due("3: PUK tries kept", x.puks(), 3);
        x.unblock(1, 1);
        CHECK.due("3: PUK tries go on", x.puks(), 2);
        CHECK.due("3: right", x.change(5, 6), RIGHT);
        CHECK.due("3: PUK tries kept", x.puks(), 2);
    }

    private static void promise3Torn() {
        for (int n = 1; n <= 10; n++) {
            TornTryCounter x = card();
            x.verify(1);
            x.arm(n, 0);
            boolean whole = n == 10;
            CHECK.due("3: torn at " + n, x.change(PIN, 77), whole ? RIGHT : LOST);
            CHECK.due("3: in, torn at " + n, x.in(), whole);
            CHECK.due("3: up, torn at " + n, x.up(), whole);
            CHECK.due("3: page, torn at " + n, x.page(), whole ? 1 : 0);
            CHECK.due("3: tries, torn at " + n, x.tries(), n == 1 ? 2 : n == 2 ? 1 : 3);
            x.arm(0, 0);
            x.start();
            CHECK.due("3: the number, torn at " + n, x.verify(whole ? 77 : PIN), RIGHT);
        }
        TornTryCounter x = card();
        x.arm(9, 165);
        CHECK.due("3: torn, but the page is good", x.change(PIN, 77), LOST);
        CHECK.due("3: turned", x.page(), 1);
        CHECK.due("3: nobody in", x.in(), false);
        x.start();
        CHECK.due("3: the new number", x.verify(77), RIGHT);
    }

    private static void promise4() {
        TornTryCounter x = card();
        times(x, 3, 1, WRONG);
        CHECK.due("4: wrong", x.unblock(PUK + 1, 9), WRONG);
        CHECK.due("4: wrong takes one operation", x.operations(), 4);
        CHECK.due("4: wrong takes a PUK try", x.puks(), 4);
        CHECK.due("4: wrong takes no PIN try, gives none", x.tries(), 0);
        CHECK.due("4: right", x.unblock(PUK, 0x12340009), RIGHT);
        CHECK.due("4: right takes one and seven", x.operations(), 12);
        CHECK.due("4: PUK tries", x.puks(), 5);
        CHECK.due("4: PIN tries", x.tries(), 3);
        CHECK.due("4: nobody in", x.in(), false);
        CHECK.due("4: page", x.page(), 1);
        CHECK.due("4: the old number", x.verify(PIN), WRONG);
        CHECK.due("4: the new number", x.verify(9), RIGHT);
        CHECK.due("4: wrong puts the holder out", x.unblock(1, 1), WRONG);
        CHECK.due("4: out", x.in(), false);
        x.verify(9);
        CHECK.due("4: right puts the holder out", x.unblock(PUK, 9), RIGHT);
        CHECK.due("4: out", x.in(), false);
        x.cut();
        CHECK.due("4: down", x.unblock(PUK, 9), DOWN);
        CHECK.due("4: the PUK's all bits", new TornTryCounter(1, 65537, 1, 1).unblock(1, 1), WRONG);
    }

    private static void promise4Locked() {
        TornTryCounter x = new TornTryCounter(PIN, PUK, 3, 2);
        x.unblock(1, 1);
        x.unblock(PUK - 1, 1);
        CHECK.due("4: none left", x.puks(), 0);
        CHECK.due("4: the PIN still lets in", x.verify(PIN), RIGHT);
        int before = x.operations();
        CHECK.due("4: locked", x.unblock(PUK, 1), LOCKED);
        CHECK.due("4: locked does nothing", x.operations(), before);
        CHECK.due("4: locked leaves the holder in", x.in(), true);
        CHECK.due("4: locked leaves the PIN", x.verify(PIN), RIGHT);
        x.cut();
        CHECK.due("4: down goes before locked", x.unblock(PUK, 1), DOWN);
    }

    private static void promise4FullPage() {
        TornTryCounter x = card();
        x.unblock(1, 1);
        times(x, 6, PIN, RIGHT);
        times(x, 3, 1, WRONG);
        CHECK.due("4: full", x.free(), 0);
        int before = x.operations();
        CHECK.due("4: wrong on a full page", x.unblock(1, 1), WRONG);
        CHECK.due("4: seven to turn and one", x.operations() - before, 8);
        CHECK.due("4: PIN tries taken over", x.tries(), 0);
        CHECK.due("4: PUK tries taken over", x.puks(), 3);
        CHECK.due("4: page", x.page(), 1);

        TornTryCounter y = card();
        times(y, 10, PIN, RIGHT);
        CHECK.due("4: right on a full page", y.unblock(PUK, 8), RIGHT);
        CHECK.due("4: turned twice, 7 and 1 and 8", y.operations(), 36);
        CHECK.due("4: page", y.page(), 0);
        CHECK.due("4: generation", y.generation(), 2);
        CHECK.due("4: erased(0)", y.erased(0), 1);
        CHECK.due("4: erased(1)", y.erased(1), 1);
        CHECK.due("4: free", y.free(), 10);
    }

    private static void promise4Torn() {
        for (int n = 1; n <= 9; n++) {
            TornTryCounter x = card();
            x.verify(PIN);
            x.arm(n, 0);
            boolean whole = n == 9;
            CHECK.due("4: torn at " + n, x.unblock(PUK, 77), whole ? RIGHT : LOST);
            CHECK.due("4: in, torn at " + n, x.in(), false);
            CHECK.due("4: up, torn at " + n, x.up(), whole);
            CHECK.due("4: page, torn at " + n, x.page(), whole ? 1 : 0);
            CHECK.due("4: puks, torn at " + n, x.puks(), n == 1 || whole ? 5 : 4);
        }
        TornTryCounter x = card();
        x.arm(1, 16);
        CHECK.due("4: torn, but counted", x.unblock(PUK, 77), LOST);
        CHECK.due("4: counted", x.puks(), 4);
        x.start();
        x.arm(1, 239);
        CHECK.due("4: torn, not counted", x.unblock(PUK, 77), LOST);
        CHECK.due("4: not counted", x.puks(), 4);
        CHECK.due("4: entry still free", x.free(), 9);
    }

    private static void promise5Refused() {
        TornTryCounter x = card();
        int[] wrongN = {Integer.MIN_VALUE, -1, 31, 32, 286, Integer.MAX_VALUE};
        int[] wrongMask = {Integer.MIN_VALUE, -1, 256, 511, Integer.MAX_VALUE};
        CHECK.due("5: arm(2, 0)", x.arm(2, 0), true);
        for (int n : wrongN) {
            CHECK.due("5: arm(" + n + ", 3)", x.arm(n, 3), false);
        }
        for (int mask : wrongMask) {
            CHECK.due("5: arm(1, " + mask + ")", x.arm(1, mask), false);
            CHECK.due("5: arm(0, " + mask + ")", x.arm(0, mask), false);
        }
        CHECK.due("5: refused changes nothing", x.verify(1), WRONG);
        CHECK.due("5: refused changes nothing", x.verify(1), LOST);
        CHECK.due("5: refused changes nothing", x.tries(), 2);
        CHECK.due("5: arm(0, 0)", x.arm(0, 0), true);
        CHECK.due("5: arm(0, 255)", x.arm(0, 255), true);
        CHECK.due("5: arm(30, 255)", x.arm(30, 255), true);
        CHECK.due("5: arm(1, 0) when down", x.arm(1, 0), true);
    }

    private static void promise5AtMost40() {
        TornTryCounter x = card();
        for (int i = 1; i <= 40; i++) {
            CHECK.due("5: refused ones do not count", x.arm(31, 0), false);
            CHECK.due("5: refused ones do not count", x.arm(1, 256), false);
            CHECK.due("5: n = 0 does not count", x.arm(0, 0), true);
            CHECK.due("5: number " + i, x.arm(i == 40 ? 2 : 1, 0), true);
        }
        CHECK.due("5: number 41", x.arm(1, 0), false);
        CHECK.due("5: number 41", x.arm(30, 255), false);
        CHECK.due("5: number 40 is armed still", x.verify(1), WRONG);
        CHECK.due("5: number 40 is armed still", x.verify(1), LOST);
        CHECK.due("5: also after a loss", x.arm(1, 0), false);
        x.start();
        CHECK.due("5: also after a start", x.arm(1, 0), false);
        CHECK.due("5: arm(0, 7)", x.arm(0, 7), true);
        CHECK.due("5: arm(0, 256)", x.arm(0, 256), false);
    }

    private static void promise5Counts() {
        for (int n = 1; n <= 30; n++) {
            TornTryCounter x = new TornTryCounter(PIN, PUK, 7, 7);
            x.arm(n, 0);
            int calls = 0;
            while (x.up() && calls < 100) {
                x.verify(PIN);
                calls++;
            }
            CHECK.due("5: arm(" + n + ", 0) tears that operation", x.operations(), n);
            x.start();
            times(x, 40, PIN, RIGHT);
        }
        TornTryCounter x = card();
        x.arm(2, 0);
        x.cut();
        x.start();
        CHECK.due("5: armed through a loss of power", x.verify(PIN), LOST);
    }

    private static void promise5Replaces() {
        TornTryCounter x = card();
        x.arm(1, 0);
        x.arm(3, 255);
        CHECK.due("5: the later one alone", x.verify(1), WRONG);
        CHECK.due("5: the later one alone", x.verify(1), WRONG);
        CHECK.due("5: the later one alone", x.verify(1), LOST);
        CHECK.due("5: with its mask", x.tries(), 0);
        TornTryCounter y = card();
        y.arm(1, 0);
        y.arm(0, 0);
        times(y, 30, PIN, RIGHT);
    }

    private static void promise5Erase() {
        // Page 1 is used, then made bad, so that what a torn erase leaves of it can be looked at
        // only through byte 0: it stays bad whichever bytes are erased.
        for (int mask = 0; mask <= 255; mask++) {
            TornTryCounter x = card();
            x.change(PIN, 1);
            x.change(1, 2);
            x.arm(4, mask);
            CHECK.due("5: torn erase, mask " + mask, x.change(2, 3), LOST);
            CHECK.due("5: page, mask " + mask, x.page(), 0);
            CHECK.due("5: erased(1), mask " + mask, x.erased(1), 2);
            x.start();
            int before = x.operations();
            CHECK.due("5: again, mask " + mask, x.change(2, 4), RIGHT);
            CHECK.due("5: two and seven, mask " + mask, x.operations() - before, 9);
            CHECK.due("5: number, mask " + mask, x.verify(4), RIGHT);
        }
    }

    private static void promise6And7And9() {
        TornTryCounter x = card();
        CHECK.due("7: start when up", x.start(), false);
        CHECK.due("9: up", x.up(), true);
        x.verify(PIN);
        CHECK.due("7: start when up", x.start(), false);
        CHECK.due("7: refused changes nothing", x.in(), true);
        CHECK.due("6: cut", x.cut(), true);
        CHECK.due("9: down", x.up(), false);
        CHECK.due("6: nobody in", x.in(), false);
        CHECK.due("6: cut when down", x.cut(), false);
        CHECK.due("9: down", x.up(), false);
        CHECK.due("6: no operation", x.operations(), 2);
        CHECK.due("7: start", x.start(), true);
        CHECK.due("9: up", x.up(), true);
        CHECK.due("7: nobody in", x.in(), false);
        CHECK.due("7: start again", x.start(), false);
        CHECK.due("7: no operation", x.operations(), 2);
        x.arm(1, 0);
        x.verify(PIN);
        CHECK.due("9: down by a tear", x.up(), false);
        CHECK.due("6: cut when down by a tear", x.cut(), false);
        CHECK.due("7: start after a tear", x.start(), true);
        CHECK.due("9: up", x.up(), true);
        CHECK.due("7: and it works", x.verify(PIN), RIGHT);
    }

    private static void promise8() {
        TornTryCounter x = card();
        CHECK.due("8: at first", x.in(), false);
        x.verify(PIN);
        CHECK.due("8: by verify", x.in(), true);
        x.tries();
        x.arm(0, 0);
        x.erased(0);
        CHECK.due("8: asking puts nobody out", x.in(), true);
        x.change(PIN, 5);
        CHECK.due("8: by change", x.in(), true);
        x.change(PIN, 5);
        CHECK.due("8: out by a wrong change", x.in(), false);
        x.verify(5);
        x.cut();
        CHECK.due("8: out by a cut", x.in(), false);
        x.start();
        CHECK.due("8: out still", x.in(), false);
    }

    private static void promise10And11() {
        TornTryCounter x = new TornTryCounter(PIN, PUK, 2, 3);
        CHECK.due("10: at first", x.tries(), 2);
        x.verify(1);
        x.unblock(1, 1);
        CHECK.due("10: one less", x.tries(), 1);
        CHECK.due("11: one less", x.puks(), 2);
        x.cut();
        CHECK.due("10: when down", x.tries(), 1);
        CHECK.due("11: when down", x.puks(), 2);
        x.verify(1);
        x.unblock(1, 1);
        CHECK.due("10: down, no try", x.tries(), 1);
        CHECK.due("11: down, no try", x.puks(), 2);
        x.start();
        x.verify(1);
        x.verify(1);
        CHECK.due("10: not less than 0", x.tries(), 0);
        x.unblock(1, 1);
        x.unblock(1, 1);
        x.unblock(1, 1);
        CHECK.due("11: not less than 0", x.puks(), 0);
        x.arm(0, 0);
        TornTryCounter y = new TornTryCounter(PIN, PUK, 2, 3);
        y.verify(1);
        y.verify(PIN);
        y.verify(1);
        CHECK.due("10: a right one gives back what stands before it", y.tries(), 1);
        y.arm(1, 1);
        y.verify(PIN);
        CHECK.due("10: as the flash is, when down by a tear", y.tries(), 0);
    }

    private static void promise12And13() {
        TornTryCounter x = card();
        for (int i = 1; i <= 6; i++) {
            x.change(PIN, PIN);
            CHECK.due("12: after turn " + i, x.page(), i & 1);
            CHECK.due("13: after turn " + i, x.generation(), i);
        }
        x.cut();
        CHECK.due("12: when down", x.page(), 0);
        CHECK.due("13: when down", x.generation(), 6);
        x.start();
        x.arm(3, 165);
        CHECK.due("12: torn before the old page is bad", x.change(PIN, PIN), LOST);
        CHECK.due("12: both good, the later one", x.page(), 0);
        CHECK.due("13: both good, the later one", x.generation(), 6);
        x.start();
        x.arm(10, 165);
        CHECK.due("12: torn when the new page is good", x.change(PIN, PIN), LOST);
        CHECK.due("12: both good, the later one", x.page(), 1);
        CHECK.due("13: both good, the later one", x.generation(), 7);
        x.start();
        for (int bit = 0; bit < 8; bit++) {
            if ((165 >> bit & 1) == 0) {
                continue;
            }
            TornTryCounter y = card();
            y.arm(9, 255 ^ 1 << bit);
            CHECK.due("12: torn but for bit " + bit, y.change(PIN, 5), LOST);
            CHECK.due("12: the new page is not good", y.page(), 0);
            CHECK.due("13: the new page is not good", y.generation(), 0);
        }
    }

    private static void promise13BehindOf255() {
        TornTryCounter x = card();
        for (int i = 1; i <= 300; i++) {
            CHECK.due("13: change " + i, x.change(i == 1 ? PIN : i - 1, i), RIGHT);
            if (i < 250 || i > 260) {
                continue;
            }
            CHECK.due("13: generation, change " + i, x.generation(), i & 255);
            CHECK.due("12: page, change " + i, x.page(), i & 1);
        }
        CHECK.due("13: at last", x.generation(), 44);
        CHECK.due("16: at last", x.erased(0), 150);
        CHECK.due("16: at last", x.erased(1), 150);
    }

    private static void promise14() {
        TornTryCounter x = card();
        for (int i = 1; i <= 10; i++) {
            if (i % 2 == 0) {
                x.verify(PIN);
            } else {
                x.verify(1);
            }
            CHECK.due("14: after try " + i, x.free(), 10 - i);
        }
        x.cut();
        CHECK.due("14: when down", x.free(), 0);
        x.start();
        x.verify(1);
        CHECK.due("14: after the turn", x.free(), 9);
        x.arm(1, 0);
        x.verify(1);
        CHECK.due("14: torn with nothing done", x.free(), 9);
        x.start();
        x.arm(1, 1);
        x.verify(1);
        CHECK.due("14: torn with all done", x.free(), 8);
    }

    private static void promise15() {
        TornTryCounter x = card();
        x.verify(1);
        CHECK.due("15: one", x.operations(), 1);
        x.arm(1, 0);
        x.verify(1);
        CHECK.due("15: a torn one counts", x.operations(), 2);
        x.verify(1);
        CHECK.due("15: when down", x.operations(), 2);
        x.start();
        x.arm(2, 0);
        x.unblock(PUK, 1);
        CHECK.due("15: a torn erase counts", x.operations(), 4);
        x.start();
        x.unblock(PUK, 1);
        CHECK.due("15: one to mark, seven to turn", x.operations(), 12);
        x.unblock(PUK, 1);
        CHECK.due("15: one to mark, eight to turn", x.operations(), 21);
    }

    private static void promise16() {
        TornTryCounter x = card();
        x.change(PIN, PIN);
        CHECK.due("16: erased(0)", x.erased(0), 0);
        CHECK.due("16: erased(1)", x.erased(1), 1);
        x.arm(4, 0);
        CHECK.due("16: torn", x.change(PIN, PIN), LOST);
        CHECK.due("16: a torn one counts", x.erased(0), 1);
        CHECK.due("16: when down", x.erased(1), 1);
        x.start();
        x.arm(3, 255);
        CHECK.due("16: torn again, and the whole erase done", x.change(PIN, PIN), LOST);
        CHECK.due("16: it counts", x.erased(0), 2);
        int[] none = {Integer.MIN_VALUE, -2, -1, 2, 3, 16, 256, Integer.MAX_VALUE};
        for (int page : none) {
            CHECK.due("16: erased(" + page + ")", x.erased(page), 0);
        }
    }
}
