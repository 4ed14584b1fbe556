/**
 * A card that lets its holder in by a number. A try is on the flash before the number is compared,
 * so that whoever cuts the power to hide a wrong try has already paid for it.
 */
public final class TornTryCounter {
    public static final int DOWN = -1;
    public static final int LOCKED = -2;
    public static final int LOST = -3;
    public static final int WRONG = 0, RIGHT = 1;

    private static final int LARGEST_LIMIT = 7;
    private static final int USUAL_PIN_LIMIT = 3;
    private static final int USUAL_PUK_LIMIT = 5;
    private static final int PIN_BITS = 0xFFFF;
    private static final int FARTHEST_TEAR = 30;
    private static final int MOST_TEARS = 40;

    private final Flash flash;
    private final Pages pages;
    private final int pukNumber;
    private final int pinLimit;
    private final int pukLimit;
    private boolean powered;
    private boolean holderIn;
    private int tearsArmed;

    public TornTryCounter(int pin, int puk, int limit, int pukLimit) {
        this.flash = new Flash();
        this.pages = new Pages(flash, pin & PIN_BITS);
        this.pukNumber = puk;
        this.pinLimit = limitOr(limit, USUAL_PIN_LIMIT);
        this.pukLimit = limitOr(pukLimit, USUAL_PUK_LIMIT);
        this.powered = true;
        this.holderIn = false;
        this.tearsArmed = 0;
    }

    public int verify(int pin) {
        int answer = tryNumber(pin & PIN_BITS);
        if (answer == RIGHT) {
            holderIn = true;
        }
        return answer;
    }

    public int change(int pin, int next) {
        int answer = tryNumber(pin & PIN_BITS);
        if (answer != RIGHT) {
            return answer;
        }
        if (!pages.turn(next & PIN_BITS, 0, pages.pukTriesUsed())) {
            return losePower();
        }
        // Only now: a card that loses its power while the page is turned has let nobody in.
        holderIn = true;
        return RIGHT;
    }

    public int unblock(int puk, int next) {
        if (!powered) {
            return DOWN;
        }
        if (pages.pukTriesUsed() >= pukLimit) {
            return LOCKED;
        }
        holderIn = false;
        if (pages.mark(Pages.PUK_TRIED) == Pages.NO_ENTRY) {
            return losePower();
        }
        if (puk != pukNumber) {
            return WRONG;
        }
        return pages.turn(next & PIN_BITS, 0, 0) ? RIGHT : losePower();
    }

    public boolean arm(int n, int mask) {
        if (n < 0 || n > FARTHEST_TEAR || mask < 0 || mask > Flash.BLANK) {
            return false;
        }
        if (n > 0) {
            if (tearsArmed >= MOST_TEARS) {
                return false;
            }
            tearsArmed++;
        }
        flash.tearLater(n, mask);
        return true;
    }

    public boolean cut() {
        if (!powered) {
            return false;
        }
        losePower();
        return true;
    }

    public boolean start() {
        if (powered) {
            return false;
        }
        powered = true;
        return true;
    }

    public boolean in() {
        return holderIn;
    }

    public boolean up() {
        return powered;
    }

    public int tries() {
        return Math.max(0, pinLimit - pages.pinTriesUsed());
    }

    public int puks() {
        return Math.max(0, pukLimit - pages.pukTriesUsed());
    }

    public int page() {
        return pages.active();
    }

    public int generation() {
        return pages.activeGeneration();
    }

    public int free() {
        return pages.freeEntries();
    }

    public int operations() {
        return flash.operationCount();
    }

    public int erased(int page) {
        return flash.eraseCount(page);
    }

    private static int limitOr(int asked, int usual) {
        return asked >= 1 && asked <= LARGEST_LIMIT ? asked : usual;
    }

    /** Leaves it to the caller to let the holder in, as change has more to do first. */
    private int tryNumber(int number) {
        if (!powered) {
            return DOWN;
        }
        if (pages.pinTriesUsed() >= pinLimit) {
            return LOCKED;
        }
        holderIn = false;
        int entry = pages.mark(Pages.PIN_TRIED);
        if (entry == Pages.NO_ENTRY) {
            return losePower();
        }
        if (number != pages.pin()) {
            return WRONG;
        }
        return pages.remark(entry, Pages.PIN_WAS_RIGHT) ? RIGHT : losePower();
    }

    /** Answers LOST, so that a call can end with it. What is armed counts operations, and stays. */
    private int losePower() {
        powered = false;
        holderIn = false;
        return LOST;
    }

    /** What the bytes of the two pages mean; nothing is kept beside the flash, so a tear shows at once. */
    private static final class Pages {
        static final int NO_ENTRY = -1;

        // Each clears bits that the others leave alone, so that one can be programmed over another.
        static final int PIN_TRIED = 254;
        static final int PIN_WAS_RIGHT = 253;
        static final int PUK_TRIED = 239;

        private static final int PIN_TRIED_BIT = 1;
        private static final int PIN_WAS_RIGHT_BIT = 2;
        private static final int PUK_TRIED_BIT = 16;

        private static final int STATE = 0;
        private static final int GENERATION = 1;
        private static final int PIN_HIGH = 2;
        private static final int PIN_LOW = 3;
        private static final int PIN_TRIES = 4;
        private static final int PUK_TRIES = 5;
        private static final int FIRST_ENTRY = 6;

        private static final int GOOD = 90;
        private static final int NOT_GOOD = 0;

        private final Flash flash;

        Pages(Flash flash, int pin) {
            this.flash = flash;
            flash.preset(0, STATE, GOOD);
            flash.preset(0, GENERATION, 0);
            flash.preset(0, PIN_HIGH, pin >> 8);
            flash.preset(0, PIN_LOW, pin & 255);
            flash.preset(0, PIN_TRIES, 0);
            flash.preset(0, PUK_TRIES, 0);
        }

        int active() {
            if (!isGood(1)) {
                return 0;
            }
            if (!isGood(0)) {
                return 1;
            }
            return flash.read(1, GENERATION) == generationAfter(0) ? 1 : 0;
        }

        int activeGeneration() {
            return flash.read(active(), GENERATION);
        }

        int pin() {
            int page = active();
            return flash.read(page, PIN_HIGH) << 8 | flash.read(page, PIN_LOW);
        }

        int pinTriesUsed() {
            int page = active();
            int used = flash.read(page, PIN_TRIES);
            for (int at = FIRST_ENTRY; at < Flash.PAGE_SIZE; at++) {
                int entry = flash.read(page, at);
                if ((entry & PIN_TRIED_BIT) == 0) {
                    used = (entry & PIN_WAS_RIGHT_BIT) == 0 ? 0 : used + 1;
                }
            }
            return used;
        }

        int pukTriesUsed() {
            int page = active();
            int used = flash.read(page, PUK_TRIES);
            for (int at = FIRST_ENTRY; at < Flash.PAGE_SIZE; at++) {
                if ((flash.read(page, at) & PUK_TRIED_BIT) == 0) {
                    used++;
                }
            }
            return used;
        }

        int freeEntries() {
            int page = active();
            int count = 0;
            for (int at = FIRST_ENTRY; at < Flash.PAGE_SIZE; at++) {
                if (flash.read(page, at) == Flash.BLANK) {
                    count++;
                }
            }
            return count;
        }

        /** Answers the entry that holds the mark, or NO_ENTRY when the power was lost. */
        int mark(int value) {
            if (firstFreeEntry() == NO_ENTRY && !turn(pin(), pinTriesUsed(), pukTriesUsed())) {
                return NO_ENTRY;
            }
            int entry = firstFreeEntry();
            return entry != NO_ENTRY && flash.program(active(), entry, value) ? entry : NO_ENTRY;
        }

        /** False when the power was lost. */
        boolean remark(int entry, int value) {
            return flash.program(active(), entry, value);
        }

        /**
         * False when the power was lost. Byte 0 comes last, so that a page which is not whole is
         * never good, and the old page stays active until then.
         */
        boolean turn(int pin, int pinTries, int pukTries) {
            int old = active();
            int fresh = 1 - old;
            if (isGood(fresh) && !flash.program(fresh, STATE, NOT_GOOD)) {
                return false;
            }
            return flash.erase(fresh)
                && flash.program(fresh, GENERATION, generationAfter(old))
                && flash.program(fresh, PIN_HIGH, pin >> 8)
                && flash.program(fresh, PIN_LOW, pin & 255)
                && flash.program(fresh, PIN_TRIES, pinTries)
                && flash.program(fresh, PUK_TRIES, pukTries)
                && flash.program(fresh, STATE, GOOD);
        }

        private boolean isGood(int page) {
            return flash.read(page, STATE) == GOOD;
        }

        private int generationAfter(int page) {
            return (flash.read(page, GENERATION) + 1) & 255;
        }

        private int firstFreeEntry() {
            int page = active();
            for (int at = FIRST_ENTRY; at < Flash.PAGE_SIZE; at++) {
                if (flash.read(page, at) == Flash.BLANK) {
                    return at;
                }
            }
            return NO_ENTRY;
        }
    }

    /** The bytes, and the one place where an operation is counted and can be torn. */
    private static final class Flash {
        static final int PAGE_SIZE = 16;
        static final int BLANK = 255;

        private static final int PAGE_COUNT = 2;

        // A tear with every bit of the mask leaves nothing undone, so a whole operation is done as one.
        private static final int WHOLE = 255;

        private final int[] bytes;
        private final int[] erases;
        private int operationsDone;
        private int operationsToTear;
        private int tearMask;

        Flash() {
            bytes = new int[PAGE_COUNT * PAGE_SIZE];
            erases = new int[PAGE_COUNT];
            for (int i = 0; i < bytes.length; i++) {
                bytes[i] = BLANK;
            }
            operationsDone = 0;
            operationsToTear = 0;
            tearMask = 0;
        }

        int read(int page, int at) {
            int place = page * PAGE_SIZE + at;
            return place >= 0 && place < bytes.length ? bytes[place] : BLANK;
        }

        /** For the bytes that a card is made with, which are no operations. */
        void preset(int page, int at, int value) {
            int place = page * PAGE_SIZE + at;
            if (place >= 0 && place < bytes.length) {
                bytes[place] = value;
            }
        }

        /** False when the operation was torn. */
        boolean program(int page, int at, int value) {
            boolean torn = countOperation();
            int mask = torn ? tearMask : WHOLE;
            int place = page * PAGE_SIZE + at;
            if (place >= 0 && place < bytes.length) {
                bytes[place] &= value | ~mask;
            }
            return !torn;
        }

        /** False when the operation was torn. */
        boolean erase(int page) {
            boolean torn = countOperation();
            int mask = torn ? tearMask : WHOLE;
            if (isPage(page)) {
                erases[page]++;
                for (int at = 0; at < PAGE_SIZE; at++) {
                    if ((mask >> (at & 7) & 1) == 1) {
                        bytes[page * PAGE_SIZE + at] = BLANK;
                    }
                }
            }
            return !torn;
        }

        /** With n = 0 none will be torn. */
        void tearLater(int n, int mask) {
            operationsToTear = n;
            tearMask = mask;
        }

        int operationCount() {
            return operationsDone;
        }

        int eraseCount(int page) {
            return isPage(page) ? erases[page] : 0;
        }

        /** True when this operation is the one to be torn. */
        private boolean countOperation() {
            operationsDone++;
            if (operationsToTear == 0) {
                return false;
            }
            operationsToTear--;
            return operationsToTear == 0;
        }

        private static boolean isPage(int page) {
            return page >= 0 && page < PAGE_COUNT;
        }
    }
}
