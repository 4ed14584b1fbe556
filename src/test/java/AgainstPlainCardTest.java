import java.util.Random;

/** Long runs, always the same ones, of the program and of PlainCard side by side: promises 1 to 16. */
public final class AgainstPlainCardTest {
    private static final Check CHECK = new Check("AgainstPlainCardTest");
    private static final int RUNS = 20000;

    // What a card answers behind these is free, so that asking counts here too.
    private static final int CALLS = 512;
    private static final int CALLS_OF_A_LOOK = 10;
    private static final int[] ODD = {0, 1, -1, 2, 31, 255, 256, 65535, 65536, Integer.MIN_VALUE, Integer.MAX_VALUE};

    private final Random random;
    private final TornTryCounter card;
    private final PlainCard plain;
    private final StringBuilder told = new StringBuilder();
    private final int puk;
    private int pin;
    private int lastNext;
    private final int wrongInTen;
    private final int stepsToALook;
    private int calls = 0;

    private AgainstPlainCardTest(int run) {
        random = new Random(run);
        wrongInTen = run % 5;
        stepsToALook = 1 << run % 6;
        pin = number();
        lastNext = pin;
        puk = random.nextInt();
        int limit = random.nextInt(10) - 1;
        int pukLimit = random.nextInt(10) - 1;
        card = new TornTryCounter(pin, puk, limit, pukLimit);
        plain = new PlainCard(pin, puk, limit, pukLimit);
        told.append("run ").append(run).append(": new(").append(pin).append(", ").append(puk)
            .append(", ").append(limit).append(", ").append(pukLimit).append(")");
    }

    public static void main(String[] args) {
        for (int run = 0; run < RUNS && CHECK.clean(); run++) {
            new AgainstPlainCardTest(run).go(run % 7 == 0 ? 245 + run % 12 : 0);
        }
        CHECK.end();
    }

    /** With so many turns first, that the generation comes to 255 and behind it. */
    private void go(int turns) {
        for (int i = 0; i < turns; i++) {
            same("change(" + pin + ", " + pin + ")", card.change(pin, pin), plain.change(pin, pin));
        }
        for (int steps = 1; calls + CALLS_OF_A_LOOK < CALLS && CHECK.clean(); steps++) {
            step();
            if (steps % stepsToALook == 0 && calls + CALLS_OF_A_LOOK <= CALLS) {
                look();
            }
        }
    }

    private void step() {
        int kind = random.nextInt(100);
        if (!plain.up() && kind < 70) {
            same("start()", card.start() ? 1 : 0, plain.start() ? 1 : 0);
        } else if (kind < 40) {
            int x = triedPin();
            same("verify(" + x + ")", card.verify(x), plain.verify(x));
        } else if (kind < 65) {
            change();
        } else if (kind < 75) {
            unblock();
        } else if (kind < 90) {
            arm();
        } else if (kind < 94) {
            same("cut()", card.cut() ? 1 : 0, plain.cut() ? 1 : 0);
        } else if (kind < 97) {
            same("start()", card.start() ? 1 : 0, plain.start() ? 1 : 0);
        } else {
            int page = ODD[random.nextInt(ODD.length)];
            same("erased(" + page + ")", card.erased(page), plain.erased(page));
        }
    }

    private void change() {
        int x = triedPin();
        int next = number();
        int answer = plain.change(x, next);
        same("change(" + x + ", " + next + ")", card.change(x, next), answer);
        learn(answer, next);
    }

    private void unblock() {
        int x = random.nextInt(10) < wrongInTen ? puk ^ 1 << random.nextInt(32) : puk;
        int next = number();
        int answer = plain.unblock(x, next);
        same("unblock(" + x + ", " + next + ")", card.unblock(x, next), answer);
        learn(answer, next);
    }

    private void arm() {
        boolean odd = random.nextInt(10) == 0;
        int n = odd ? ODD[random.nextInt(ODD.length)] : random.nextInt(20) == 0 ? 0 : 1 + random.nextInt(20);
        int mask = odd ? ODD[random.nextInt(ODD.length)] : oftenWholeMask();
        same("arm(" + n + ", " + mask + ")", card.arm(n, mask) ? 1 : 0, plain.arm(n, mask) ? 1 : 0);
    }

    private int oftenWholeMask() {
        int kind = random.nextInt(6);
        int any = random.nextInt(256);
        return kind == 0 ? any | 165 : kind == 1 ? any & 165 : kind == 2 ? 255 : any;
    }

    private void learn(int answer, int next) {
        if (answer == TornTryCounter.RIGHT) {
            pin = next;
        }
        lastNext = answer == TornTryCounter.LOST ? next : pin;
    }

    /** A lost change may or may not have taken, so both numbers are tried then. */
    private int triedPin() {
        if (random.nextInt(10) < wrongInTen) {
            return random.nextBoolean() ? pin ^ 1 << random.nextInt(16) : number();
        }
        int x = random.nextBoolean() ? pin : lastNext;
        return random.nextInt(4) == 0 ? x ^ random.nextInt() << 16 : x;
    }

    private int number() {
        return random.nextInt(4) == 0 ? ODD[random.nextInt(ODD.length)] : random.nextInt();
    }

    private void look() {
        same("in()", card.in() ? 1 : 0, plain.in() ? 1 : 0);
        same("up()", card.up() ? 1 : 0, plain.up() ? 1 : 0);
        same("tries()", card.tries(), plain.tries());
        same("puks()", card.puks(), plain.puks());
        same("page()", card.page(), plain.page());
        same("generation()", card.generation(), plain.generation());
        same("free()", card.free(), plain.free());
        same("operations()", card.operations(), plain.operations());
        same("erased(0)", card.erased(0), plain.erased(0));
        same("erased(1)", card.erased(1), plain.erased(1));
    }

    private void same(String call, int got, int want) {
        calls++;
        if (!call.endsWith("()") || call.equals("cut()") || call.equals("start()")) {
            told.append("; ").append(call).append(" = ").append(got);
        }
        CHECK.due(got == want ? call : told + "; " + call, got, want);
    }
}
