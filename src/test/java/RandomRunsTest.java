import java.util.Random;

/**
 * Runs of up to 512 calls, drawn from fixed seeds, on a RecordWire and a PlainWire side by side:
 * every answer of both must be the same. Records are forged too, with tags that are right, since
 * only so do numbers of any size come to the window.
 */
final class RandomRunsTest {
    private static final int RUNS = 2000;
    private static final int MOST_CALLS = 512;
    private static final int MOST_CALLS_OF_A_STEP = 140;
    private static final int CALLS_OF_A_LOOK = 88;
    private static final int[] ODD = {
        -1, -2, 2, 3, 7, 8, 31, 32, 95, 96, 126, 127, 255, 256, Integer.MIN_VALUE, Integer.MAX_VALUE
    };
    private static final Due due = new Due("RandomRunsTest");
    private static final int[] verdicts = new int[7];

    private final int seed;
    private final Random random;
    private final RecordWire wire = new RecordWire();
    private final PlainWire plain = new PlainWire();
    private int calls = 0;

    private RandomRunsTest(int seed) {
        this.seed = seed;
        this.random = new Random(seed);
    }

    public static void main(String[] args) {
        for (int seed = 0; seed < RUNS && due.wrong() < 20; seed++) {
            new RandomRunsTest(seed).run();
        }
        // Runs that never came to one of the verdicts would prove nothing about it.
        for (int verdict = 0; verdict < verdicts.length; verdict++) {
            due.is("verdict " + verdict + " came up", verdicts[verdict] >= 100, true);
        }
        due.end();
    }

    private void run() {
        for (int i = random.nextInt(40); i > 0; i--) {
            setPsk(any(32), any(256));
        }
        if (random.nextInt(8) != 0) {
            open();
        }
        while (calls < MOST_CALLS - MOST_CALLS_OF_A_STEP - CALLS_OF_A_LOOK) {
            step();
        }
        look();
    }

    private void step() {
        switch (random.nextInt(16)) {
            case 0, 1 -> putSome(random.nextInt(random.nextInt(8) == 0 ? 100 : 6));
            case 2, 3, 4 -> send(any(2));
            case 5, 6, 7 -> deliver(any(8), any(2));
            case 8 -> corrupt(any(8), any(31), any(256));
            case 9 -> drop(any(8));
            case 10 -> rareRekey();
            case 11, 12, 13 -> forge(random.nextInt(8), random.nextInt(2));
            case 14 -> countOf(any(6));
            default -> rareRestart();
        }
    }

    private int any(int below) {
        return random.nextInt(20) == 0 ? ODD[random.nextInt(ODD.length)] : random.nextInt(below);
    }

    private void putSome(int howMany) {
        for (int i = 0; i < howMany; i++) {
            int b = any(256);
            is("put(" + b + ")", wire.put(b), plain.put(b));
        }
    }

    private void rareRekey() {
        if (random.nextInt(5) == 0) {
            int from = any(2);
            is("rekey(" + from + ")", wire.rekey(from), plain.rekey(from));
        }
    }

    private void rareRestart() {
        int kind = random.nextInt(30);
        if (kind == 0) {
            calls++;
            wire.init();
            plain.init();
        } else if (kind < 3) {
            setPsk(any(32), any(256));
        } else if (kind < 12) {
            open();
        }
    }

    private void setPsk(int i, int b) {
        is("setPsk(" + i + ", " + b + ")", wire.setPsk(i, b), plain.setPsk(i, b));
    }

    private void open() {
        calls++;
        wire.open();
        plain.open();
    }

    private void send(int from) {
        is("send(" + from + ")", wire.send(from), plain.send(from));
    }

    private void drop(int at) {
        is("drop(" + at + ")", wire.drop(at), plain.drop(at));
    }

    private void countOf(int what) {
        is("count(" + what + ")", wire.count(what), plain.count(what));
    }

    private void corrupt(int at, int i, int b) {
        is("corrupt(" + at + ", " + i + ", " + b + ")", wire.corrupt(at, i, b),
                plain.corrupt(at, i, b));
    }

    private void deliver(int from, int to) {
        int verdict = plain.deliver(from, to);
        verdicts[verdict]++;
        is("deliver(" + from + ", " + to + ")", wire.deliver(from, to), verdict);
        is("gotLen()", wire.gotLen(), plain.gotLen());
        int i = any(plain.gotLen() + 1);
        is("got(" + i + ")", wire.got(i), plain.got(i));
        countOf(4 + random.nextInt(2));
    }

    private void forge(int at, int direction) {
        if (plain.sizeOf(at) == 0 || !plain.opened) {
            return;
        }
        byte[] want = plain.forged(at, direction, someNumber(direction));
        for (int i = 0; i < want.length; i++) {
            if (plain.wireAt(at, i) != (want[i] & 255)) {
                corrupt(at, i, want[i] & 255);
            }
        }
        deliver(at, 1 - direction);
    }

    private long someNumber(int direction) {
        long greatest = plain.greatest(direction);
        return switch (random.nextInt(6)) {
            case 0 -> random.nextLong();
            case 1 -> Long.MIN_VALUE + random.nextInt(3) - 1;
            case 2 -> -1L - random.nextInt(2);
            case 3 -> greatest + 62 + random.nextInt(4);
            case 4 -> greatest - 62 - random.nextInt(4);
            default -> greatest + random.nextInt(140) - 70;
        };
    }

    private void look() {
        for (int at = 0; at < 8; at++) {
            for (int k = 0; k < 10; k++) {
                int i = any(128);
                is("wireAt(" + at + ", " + i + ")", wire.wireAt(at, i), plain.wireAt(at, i));
            }
        }
        for (int what = -1; what < 7; what++) {
            countOf(what);
        }
    }

    private void is(String call, long got, long want) {
        calls++;
        due.is("seed " + seed + ", call " + calls + ": " + call, got, want);
    }

    private void is(String call, boolean got, boolean want) {
        is(call, got ? 1 : 0, want ? 1 : 0);
    }
}
