import java.util.ArrayList;
import java.util.List;

/**
 * A wire that keeps what it was asked and what it answered. Nothing is promised behind the 512th
 * call, so a test that makes one more is itself wrong.
 */
final class ToldWire implements Wire {
    private static final int MOST_CALLS = 512;

    /** A call and its answer; a boolean counts 1 or 0, and a call without an answer 0. */
    record Told(String call, long answer) {
    }

    private final Wire wire;
    private final List<Told> told = new ArrayList<>();

    ToldWire(Wire wire) {
        this.wire = wire;
    }

    List<Told> told() {
        return told;
    }

    String latest() {
        return told.isEmpty() ? "a new object" : told.get(told.size() - 1).call();
    }

    @Override
    public void init() {
        wire.init();
        tell("init()", 0);
    }

    @Override
    public boolean setPsk(int i, int b) {
        return tell("setPsk(" + i + ", " + b + ")", wire.setPsk(i, b));
    }

    @Override
    public void open() {
        wire.open();
        tell("open()", 0);
    }

    @Override
    public boolean put(int b) {
        return tell("put(" + b + ")", wire.put(b));
    }

    @Override
    public int send(int side) {
        return tell("send(" + side + ")", wire.send(side));
    }

    @Override
    public int deliver(int slot, int side) {
        return tell("deliver(" + slot + ", " + side + ")", wire.deliver(slot, side));
    }

    @Override
    public int got(int i) {
        return tell("got(" + i + ")", wire.got(i));
    }

    @Override
    public int gotLen() {
        return tell("gotLen()", wire.gotLen());
    }

    @Override
    public boolean corrupt(int slot, int i, int b) {
        return tell("corrupt(" + slot + ", " + i + ", " + b + ")", wire.corrupt(slot, i, b));
    }

    @Override
    public boolean drop(int slot) {
        return tell("drop(" + slot + ")", wire.drop(slot));
    }

    @Override
    public int rekey(int side) {
        return tell("rekey(" + side + ")", wire.rekey(side));
    }

    @Override
    public int wireAt(int slot, int i) {
        return tell("wireAt(" + slot + ", " + i + ")", wire.wireAt(slot, i));
    }

    @Override
    public int count(int what) {
        return tell("count(" + what + ")", wire.count(what));
    }

    private int tell(String call, int answer) {
        if (told.size() == MOST_CALLS) {
            throw new IllegalStateException("the test makes more than " + MOST_CALLS + " calls");
        }
        told.add(new Told(call, answer));
        return answer;
    }

    private boolean tell(String call, boolean answer) {
        tell(call, answer ? 1 : 0);
        return answer;
    }
}
