/** RecordWire behind the tests' interface. */
final class RealWire implements Wire {
    private final RecordWire wire = new RecordWire();

    @Override
    public void init() {
        wire.init();
    }

    @Override
    public boolean setPsk(int i, int b) {
        return wire.setPsk(i, b);
    }

    @Override
    public void open() {
        wire.open();
    }

    @Override
    public boolean put(int b) {
        return wire.put(b);
    }

    @Override
    public int send(int side) {
        return wire.send(side);
    }

    @Override
    public int deliver(int slot, int side) {
        return wire.deliver(slot, side);
    }

    @Override
    public int got(int i) {
        return wire.got(i);
    }

    @Override
    public int gotLen() {
        return wire.gotLen();
    }

    @Override
    public boolean corrupt(int slot, int i, int b) {
        return wire.corrupt(slot, i, b);
    }

    @Override
    public boolean drop(int slot) {
        return wire.drop(slot);
    }

    @Override
    public int rekey(int side) {
        return wire.rekey(side);
    }

    @Override
    public int wireAt(int slot, int i) {
        return wire.wireAt(slot, i);
    }

    @Override
    public int count(int what) {
        return wire.count(what);
    }
}
