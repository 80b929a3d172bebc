/** The document's face, so that one test can be put to RecordWire and to wires that break it. */
interface Wire {
    void init();

    boolean setPsk(int i, int b);

    void open();

    boolean put(int b);

    int send(int side);

    int deliver(int slot, int side);

    int got(int i);

    int gotLen();

    boolean corrupt(int slot, int i, int b);

    boolean drop(int slot);

    int rekey(int side);

    int wireAt(int slot, int i);

    int count(int what);
}
