import java.util.HexFormat;

/** The tests' own Salsa20 and HMAC against published examples, so that they may judge others. */
final class SpecTest {
    private static final Due due = new Due("SpecTest");

    public static void main(String[] args) {
        quarterRound();
        expansion();
        stream();
        hmac();
        due.end();
    }

    // From "Salsa20 specification" (Bernstein), section 3.
    private static void quarterRound() {
        int[] z = Spec.quarterRound(new int[] {0xd3917c5b, 0x55f1c407, 0x52a58a7a, 0x8f887a3b});
        due.is("quarterround 0", z[0], 0x3e2f308c);
        due.is("quarterround 1", z[1], 0xd90a8f36);
        due.is("quarterround 2", z[2], 0x6ab2a923);
        due.is("quarterround 3", z[3], 0x2883524c);
    }

    // From "Salsa20 specification", section 9: k0 = 1 .. 16, k1 = 201 .. 216, n = 101 .. 116.
    private static void expansion() {
        byte[] key = new byte[32];
        byte[] place = new byte[16];
        for (int i = 0; i < 16; i++) {
            key[i] = (byte) (1 + i);
            key[16 + i] = (byte) (201 + i);
            place[i] = (byte) (101 + i);
        }
        int[] want = {69, 37, 68, 39, 41, 15, 107, 193, 255, 139, 122, 6, 170, 233, 217, 98};
        byte[] got = Spec.expand(key, place);
        for (int i = 0; i < want.length; i++) {
            due.is("expansion " + i, got[i] & 255, want[i]);
        }
    }

    // ECRYPT's verified vectors for Salsa20 with 256 bits of key: set 1, vector 0.
    private static void stream() {
        byte[] key = new byte[32];
        key[0] = (byte) 0x80;
        String got = HexFormat.of().formatHex(Spec.stream(key, new byte[8], 64));
        due.is("stream", got.equals("e3be8fdd8beca2e3ea8ef9475b29a6e7"
                + "003951e1097a5c38d23b7a5fad9f6844"
                + "b22c97559e2723c7cbbd3fe4fc8d9a07"
                + "44652a83e72a9c461876af4d7ef1a117"), true);
    }

    // RFC 4231, test case 2.
    private static void hmac() {
        byte[] code = Spec.hmac("Jefe".getBytes(), "what do ya want for nothing?".getBytes());
        due.is("hmac", HexFormat.of().formatHex(code).equals("5bdcc146bf60754e6a042426089575c7"
                + "5a003f089d2739839dec58b964ec3843"), true);
    }
}
