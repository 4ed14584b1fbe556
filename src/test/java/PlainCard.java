import java.util.ArrayList;
import java.util.List;

/**
 * The document told a second time, in another way than the program does it: a call first writes
 * down all its operations, worked out from the flash as it stands, and then carries them out.
 */
final class PlainCard {
    private static final int ERASE = -1;
    private static final int NOTHING = -1;

    private final int[][] flash = new int[2][16];
    private final int[] erased = new int[2];
    private final List<int[]> plan = new ArrayList<>();
    private final int puk;
    private final int limit;
    private final int pukLimit;
    private boolean up = true;
    private boolean in = false;
    private int operations = 0;
    private int tornAt = NOTHING;
    private int mask = 0;
    private int armed = 0;

    PlainCard(int pin, int puk, int limit, int pukLimit) {
        for (int i = 0; i < 32; i++) {
            flash[i / 16][i % 16] = 255;
        }
        int[] first = {90, 0, pin >>> 8 & 255, pin & 255, 0, 0};
        System.arraycopy(first, 0, flash[0], 0, 6);
        this.puk = puk;
        this.limit = limit < 1 || limit > 7 ? 3 : limit;
        this.pukLimit = pukLimit < 1 || pukLimit > 7 ? 5 : pukLimit;
    }

    int verify(int pin) {
        return attempt(pin, NOTHING);
    }

    int change(int pin, int next) {
        return attempt(pin, next & 0xFFFF);
    }

    int unblock(int tried, int next) {
        if (!up) {
            return -1;
        }
        if (pukUsed() >= pukLimit) {
            return -2;
        }
        in = false;
        plan.clear();
        int page = planMark(239);
        if (tried == puk) {
            planTurn(1 - page, generationOf(page) + 1, next & 0xFFFF, 0, 0);
        }
        return !carriedOut() ? -3 : tried == puk ? 1 : 0;
    }

    boolean arm(int n, int withMask) {
        boolean fine = 0 <= n && n <= 30 && 0 <= withMask && withMask <= 255;
        if (!fine || n > 0 && armed == 40) {
            return false;
        }
        armed += n > 0 ? 1 : 0;
        tornAt = n == 0 ? NOTHING : operations + n;
        mask = withMask;
        return true;
    }

    boolean cut() {
        boolean was = up;
        up = false;
        in = false;
        return was;
    }

    boolean start() {
        boolean was = up;
        up = true;
        return !was;
    }

    boolean in() {
        return in;
    }

    boolean up() {
        return up;
    }

    int tries() {
        return limit <= pinUsed() ? 0 : limit - pinUsed();
    }

    int puks() {
        return pukLimit <= pukUsed() ? 0 : pukLimit - pukUsed();
    }

    int page() {
        boolean good0 = flash[0][0] == 90;
        boolean good1 = flash[1][0] == 90;
        if (good0 && good1) {
            return (flash[0][1] + 1) % 256 == flash[1][1] ? 1 : 0;
        }
        if (!good0 && !good1) {
            throw new IllegalStateException("no page is good");
        }
        return good0 ? 0 : 1;
    }

    int generation() {
        return flash[page()][1];
    }

    int free() {
        int place = firstFree();
        for (int k = place; k < 16; k++) {
            if (flash[page()][k] != 255) {
                throw new IllegalStateException("an entry behind a free one");
            }
        }
        return 16 - place;
    }

    int operations() {
        return operations;
    }

    int erased(int page) {
        return page == 0 ? erased[0] : page == 1 ? erased[1] : 0;
    }

    private int attempt(int tried, int next) {
        if (!up) {
            return -1;
        }
        if (pinUsed() >= limit) {
            return -2;
        }
        in = false;
        plan.clear();
        int pukUsed = pukUsed();
        boolean right = (tried & 0xFFFF) == pin();
        int page = planMark(254);
        if (right) {
            int[] marked = plan.get(plan.size() - 1);
            plan.add(new int[] {marked[0], marked[1], 253});
        }
        if (right && next != NOTHING) {
            planTurn(1 - page, generationOf(page) + 1, next, 0, pukUsed);
        }
        if (!carriedOut()) {
            return -3;
        }
        in = right;
        return right ? 1 : 0;
    }

    /** Answers the page that will be active behind the mark. */
    private int planMark(int value) {
        int page = page();
        int place = firstFree();
        if (place == 16) {
            planTurn(1 - page, generation() + 1, pin(), pinUsed(), pukUsed());
            page = 1 - page;
            place = 6;
        }
        plan.add(new int[] {page, place, value});
        return page;
    }

    private void planTurn(int page, int generation, int pin, int a, int b) {
        // A second turn of one plan goes to the page that is active now, and that is good as it stands.
        if (flash[page][0] == 90) {
            plan.add(new int[] {page, 0, 0});
        }
        plan.add(new int[] {page, ERASE, 0});
        int[][] rows = {{1, generation % 256}, {2, pin / 256}, {3, pin % 256}, {4, a}, {5, b}, {0, 90}};
        for (int[] row : rows) {
            plan.add(new int[] {page, row[0], row[1]});
        }
    }

    /** The generation that a page has now, or will have when the plan turns to it. */
    private int generationOf(int page) {
        return page == page() ? generation() : (generation() + 1) % 256;
    }

    private boolean carriedOut() {
        for (int[] operation : plan) {
            operations++;
            boolean torn = operations == tornAt;
            carryOut(operation[0], operation[1], operation[2], torn ? mask : 255);
            if (torn) {
                tornAt = NOTHING;
                cut();
                return false;
            }
        }
        return true;
    }

    private void carryOut(int page, int place, int value, int bits) {
        if (place != ERASE) {
            int cleared = flash[page][place] & ~value & bits;
            flash[page][place] -= cleared;
            return;
        }
        erased[page]++;
        for (int k = 0; k < 16; k++) {
            if ((bits & 1 << k % 8) != 0) {
                flash[page][k] = 255;
            }
        }
    }

    private int pin() {
        return flash[page()][2] * 256 + flash[page()][3];
    }

    private int firstFree() {
        int k = 6;
        while (k < 16 && flash[page()][k] != 255) {
            k++;
        }
        return k;
    }

    /** Counted from the last right try on: what stands before it does not matter. */
    private int pinUsed() {
        int used = 0;
        for (int k = 15; k >= 6; k--) {
            int low = flash[page()][k] & 3;
            if (low == 0) {
                return used;
            }
            used += low == 2 ? 1 : 0;
        }
        return used + flash[page()][4];
    }

    private int pukUsed() {
        int used = flash[page()][5];
        for (int k = 6; k < 16; k++) {
            used += 1 - (flash[page()][k] >> 4 & 1);
        }
        return used;
    }
}
