import java.nio.ByteBuffer;
import java.nio.ByteOrder;
import java.security.GeneralSecurityException;
import java.util.Arrays;
import javax.crypto.Mac;
import javax.crypto.spec.SecretKeySpec;

/**
 * The document's section on keys and records once more, apart from the program: HMAC from the Java
 * library, and Salsa20 written after its specification, function by function.
 */
final class Spec {
    private Spec() {
    }

    /** The two keys of a direction in one of its epochs. */
    record Keys(byte[] seal, byte[] tag) {
        Keys next(int direction) {
            return of(direction, hmac(tag, seal));
        }

        static Keys opened(int direction, byte[] sharedKey) {
            return of(direction, hmac(new byte[32], sharedKey));
        }

        static Keys at(int direction, byte[] sharedKey, int epoch) {
            Keys keys = opened(direction, sharedKey);
            for (int i = 0; i < epoch; i++) {
                keys = keys.next(direction);
            }
            return keys;
        }

        static Keys of(int direction, byte[] root) {
            byte d = (byte) direction;
            return new Keys(hmac(root, new byte[] {d, 0, 1}), hmac(root, new byte[] {d, 1, 1}));
        }
    }

    static byte[] hmac(byte[] key, byte[] message) {
        try {
            Mac mac = Mac.getInstance("HmacSHA256");
            mac.init(new SecretKeySpec(key, "HmacSHA256"));
            return mac.doFinal(message);
        } catch (GeneralSecurityException e) {
            throw new IllegalStateException(e);
        }
    }

    static byte[] tagOf(Keys keys, byte[] untagged) {
        return Arrays.copyOf(hmac(keys.tag(), untagged), 16);
    }

    static byte[] record(Keys keys, int direction, int epoch, long number, byte[] text) {
        byte[] nonce = ByteBuffer.allocate(8).putLong(number).array();
        ByteBuffer head = ByteBuffer.allocate(15 + text.length);
        head.put((byte) direction).putInt(epoch).putLong(number).putShort((short) text.length);
        head.put(xor(text, stream(keys.seal(), nonce, text.length)));
        return tagged(keys, head.array());
    }

    /** The bytes with the tag behind that is right for them, whatever they say. */
    static byte[] tagged(Keys keys, byte[] untagged) {
        byte[] whole = Arrays.copyOf(untagged, untagged.length + 16);
        System.arraycopy(tagOf(keys, untagged), 0, whole, untagged.length, 16);
        return whole;
    }

    static byte[] xor(byte[] a, byte[] b) {
        byte[] c = new byte[a.length];
        for (int i = 0; i < a.length; i++) {
            c[i] = (byte) (a[i] ^ b[i]);
        }
        return c;
    }

    static byte[] stream(byte[] key, byte[] nonce, int length) {
        byte[] stream = new byte[length];
        for (int i = 0; i < length; i += 64) {
            byte[] place = ByteBuffer.allocate(16).order(ByteOrder.LITTLE_ENDIAN)
                    .put(nonce).putLong(i / 64).array();
            System.arraycopy(expand(key, place), 0, stream, i, Math.min(64, length - i));
        }
        return stream;
    }

    static byte[] expand(byte[] key, byte[] place) {
        byte[] sigma = "expand 32-byte k".getBytes(java.nio.charset.StandardCharsets.US_ASCII);
        return hash(ByteBuffer.allocate(64)
                .put(sigma, 0, 4).put(key, 0, 16).put(sigma, 4, 4).put(place)
                .put(sigma, 8, 4).put(key, 16, 16).put(sigma, 12, 4).array());
    }

    static byte[] hash(byte[] input) {
        ByteBuffer words = ByteBuffer.wrap(input).order(ByteOrder.LITTLE_ENDIAN);
        int[] x = new int[16];
        for (int i = 0; i < 16; i++) {
            x[i] = words.getInt(4 * i);
        }
        int[] z = x.clone();
        for (int i = 0; i < 10; i++) {
            z = rowRound(columnRound(z));
        }
        ByteBuffer out = ByteBuffer.allocate(64).order(ByteOrder.LITTLE_ENDIAN);
        for (int i = 0; i < 16; i++) {
            out.putInt(z[i] + x[i]);
        }
        return out.array();
    }

    static int[] columnRound(int[] x) {
        return transposed(rowRound(transposed(x)));
    }

    static int[] rowRound(int[] y) {
        int[] z = new int[16];
        for (int row = 0; row < 4; row++) {
            int[] quarter = new int[4];
            for (int i = 0; i < 4; i++) {
                quarter[i] = y[4 * row + (row + i) % 4];
            }
            quarter = quarterRound(quarter);
            for (int i = 0; i < 4; i++) {
                z[4 * row + (row + i) % 4] = quarter[i];
            }
        }
        return z;
    }

    static int[] quarterRound(int[] y) {
        int z1 = y[1] ^ Integer.rotateLeft(y[0] + y[3], 7);
        int z2 = y[2] ^ Integer.rotateLeft(z1 + y[0], 9);
        int z3 = y[3] ^ Integer.rotateLeft(z2 + z1, 13);
        int z0 = y[0] ^ Integer.rotateLeft(z3 + z2, 18);
        return new int[] {z0, z1, z2, z3};
    }

    private static int[] transposed(int[] x) {
        int[] y = new int[16];
        for (int i = 0; i < 16; i++) {
            y[i] = x[4 * (i % 4) + i / 4];
        }
        return y;
    }
}
