/**
 * What the document is for, at every operation of every call and with every mask: no loss of power
 * gives back a try that went wrong, or lets anybody in.
 */
public final class EveryTearTest {
    private static final Check CHECK = new Check("EveryTearTest");
    private static final int PIN = 0x5AA5;
    private static final int NEXT = 0xA55A;
    private static final int PUK = 99;

    public static void main(String[] args) {
        for (int used = 0; used <= 21; used++) {
            for (int n = 1; n <= 18; n++) {
                for (int mask = 0; mask <= 255; mask++) {
                    wrongTry(used, n, mask);
                    rightChange(used, n, mask);
                    wrongUnblock(used, n, mask);
                    rightUnblock(used, n, mask);
                }
            }
        }
        CHECK.end();
    }

    /** Of the tries that fill the entries the last one is wrong, so that there is something to give back. */
    private static TornTryCounter used(int entries) {
        TornTryCounter x = new TornTryCounter(PIN, PUK, 3, 3);
        for (int i = 1; i <= entries; i++) {
            if (i == entries) {
                x.verify(PIN ^ 1);
            } else if (i == 1) {
                x.unblock(PUK ^ 1, 0);
            } else {
                x.verify(PIN);
            }
        }
        return x;
    }

    private static String where(String call, int entries, int n, int mask) {
        return call + " behind " + entries + " entries, torn at " + n + " with " + mask;
    }

    private static void wrongTry(int entries, int n, int mask) {
        TornTryCounter x = used(entries);
        int before = x.tries();
        x.arm(n, mask);
        int answer = x.verify(PIN ^ 2);
        String where = where("wrong try", entries, n, mask);
        boolean wrong = answer == TornTryCounter.WRONG;
        CHECK.due(where + ", answer " + answer, wrong || answer == TornTryCounter.LOST, true);
        CHECK.due(where + ", up", x.up(), wrong);
        CHECK.due(where + ", in", x.in(), false);
        if (wrong) {
            CHECK.due(where + ", tries", x.tries(), before - 1);
        } else {
            CHECK.due(where + ", no more tries than before", x.tries() <= before, true);
        }
    }

    private static void rightChange(int entries, int n, int mask) {
        TornTryCounter x = used(entries);
        int puks = x.puks();
        x.arm(n, mask);
        int answer = x.change(PIN, NEXT);
        String where = where("right change", entries, n, mask);
        boolean right = answer == TornTryCounter.RIGHT;
        CHECK.due(where + ", answer " + answer, right || answer == TornTryCounter.LOST, true);
        CHECK.due(where + ", in", x.in(), right);
        CHECK.due(where + ", up", x.up(), right);
        CHECK.due(where + ", puks", x.puks(), puks);
        eitherNumber(x, where, right);
    }

    private static void wrongUnblock(int entries, int n, int mask) {
        TornTryCounter x = used(entries);
        int puks = x.puks();
        int tries = x.tries();
        x.arm(n, mask);
        int answer = x.unblock(PUK ^ 2, NEXT);
        String where = where("wrong unblock", entries, n, mask);
        boolean wrong = answer == TornTryCounter.WRONG;
        CHECK.due(where + ", answer " + answer, wrong || answer == TornTryCounter.LOST, true);
        CHECK.due(where + ", in", x.in(), false);
        CHECK.due(where + ", tries", x.tries(), tries);
        CHECK.due(where + ", puks", x.puks() == puks - 1 || !wrong && x.puks() == puks, true);
    }

    private static void rightUnblock(int entries, int n, int mask) {
        TornTryCounter x = used(entries);
        x.arm(n, mask);
        int answer = x.unblock(PUK, NEXT);
        String where = where("right unblock", entries, n, mask);
        boolean right = answer == TornTryCounter.RIGHT;
        CHECK.due(where + ", answer " + answer, right || answer == TornTryCounter.LOST, true);
        CHECK.due(where + ", in", x.in(), false);
        eitherNumber(x, where, right);
    }

    /** The PIN is the old one or the new one, never a mixture of the two. */
    private static void eitherNumber(TornTryCounter x, String where, boolean mustBeNew) {
        x.arm(0, 0);
        x.start();
        boolean isNew = x.verify(NEXT) == TornTryCounter.RIGHT;
        boolean isOld = !isNew && x.verify(PIN) == TornTryCounter.RIGHT;
        boolean locked = !isNew && !isOld && x.tries() == 0;
        CHECK.due(where + ", the new number or the old", isNew || !mustBeNew && (isOld || locked), true);
    }
}
