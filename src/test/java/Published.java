import java.io.ByteArrayOutputStream;
import java.math.BigInteger;
import java.nio.ByteBuffer;
import java.nio.ByteOrder;
import java.security.GeneralSecurityException;
import java.security.MessageDigest;
import java.util.Arrays;
import javax.crypto.AEADBadTagException;
import javax.crypto.Cipher;
import javax.crypto.Mac;
import javax.crypto.spec.IvParameterSpec;
import javax.crypto.spec.SecretKeySpec;

/** The published parts, taken from the Java library, and the curve by big numbers straight from RFC 7748. */
final class Published {
    static final byte[] NINE = new byte[32];
    private static final BigInteger P = BigInteger.ONE.shiftLeft(255).subtract(BigInteger.valueOf(19));
    private static final BigInteger A24 = BigInteger.valueOf(121665);

    static {
        NINE[0] = 9;
    }

    private Published() {
    }

    static byte[] join(byte[]... parts) {
        ByteArrayOutputStream all = new ByteArrayOutputStream();
        for (byte[] part : parts) {
            all.writeBytes(part);
        }
        return all.toByteArray();
    }

    static byte[] hash(byte[]... parts) {
        try {
            return MessageDigest.getInstance("SHA-256").digest(join(parts));
        } catch (GeneralSecurityException e) {
            throw new IllegalStateException(e);
        }
    }

    static byte[] hmac(byte[] key, byte[]... parts) {
        try {
            Mac mac = Mac.getInstance("HmacSHA256");
            mac.init(new SecretKeySpec(key, "HmacSHA256"));
            return mac.doFinal(join(parts));
        } catch (GeneralSecurityException e) {
            throw new IllegalStateException(e);
        }
    }

    /** One and two of KEYS. */
    static byte[][] keys(byte[] c, byte[] x) {
        byte[] t = hmac(c, x);
        byte[] one = hmac(t, new byte[] {1});
        return new byte[][] {one, hmac(t, one, new byte[] {2})};
    }

    static byte[] secret(int v, int j) {
        return hash(ByteBuffer.allocate(8).putInt(v).putInt(j).array());
    }

    static byte[] seal(byte[] key, long n, byte[] along, byte[] text) {
        try {
            return cipher(Cipher.ENCRYPT_MODE, key, n, along).doFinal(text);
        } catch (GeneralSecurityException e) {
            throw new IllegalStateException(e);
        }
    }

    /** Null where the tag is not right. */
    static byte[] open(byte[] key, long n, byte[] along, byte[] sealed) {
        try {
            return cipher(Cipher.DECRYPT_MODE, key, n, along).doFinal(sealed);
        } catch (AEADBadTagException e) {
            return null;
        } catch (GeneralSecurityException e) {
            throw new IllegalStateException(e);
        }
    }

    private static Cipher cipher(int mode, byte[] key, long n, byte[] along) throws GeneralSecurityException {
        byte[] nonce = ByteBuffer.allocate(12).order(ByteOrder.LITTLE_ENDIAN).putInt(0).putLong(n).array();
        Cipher cipher = Cipher.getInstance("ChaCha20-Poly1305");
        cipher.init(mode, new SecretKeySpec(key, "ChaCha20"), new IvParameterSpec(nonce));
        cipher.updateAAD(along);
        return cipher;
    }

    static byte[] publicOf(byte[] secret) {
        return dh(secret, NINE);
    }

    static byte[] dh(byte[] secret, byte[] point) {
        byte[] k = secret.clone();
        k[0] &= (byte) 248;
        k[31] &= 127;
        k[31] |= 64;
        byte[] masked = point.clone();
        masked[31] &= 127;
        return encode(ladder(decode(k), decode(masked).mod(P)));
    }

    private static BigInteger ladder(BigInteger k, BigInteger u) {
        BigInteger x2 = BigInteger.ONE, z2 = BigInteger.ZERO, x3 = u, z3 = BigInteger.ONE;
        for (int t = 254; t >= 0; t--) {
            boolean bit = k.testBit(t);
            BigInteger px = bit ? x3 : x2, pz = bit ? z3 : z2, qx = bit ? x2 : x3, qz = bit ? z2 : z3;
            BigInteger aa = px.add(pz).pow(2).mod(P), bb = px.subtract(pz).pow(2).mod(P), e = aa.subtract(bb);
            BigInteger da = qx.subtract(qz).multiply(px.add(pz)).mod(P);
            BigInteger cb = qx.add(qz).multiply(px.subtract(pz)).mod(P);
            BigInteger sumX = da.add(cb).pow(2).mod(P);
            BigInteger sumZ = u.multiply(da.subtract(cb).pow(2)).mod(P);
            BigInteger twiceX = aa.multiply(bb).mod(P);
            BigInteger twiceZ = e.multiply(aa.add(A24.multiply(e))).mod(P);
            x2 = bit ? sumX : twiceX;
            z2 = bit ? sumZ : twiceZ;
            x3 = bit ? twiceX : sumX;
            z3 = bit ? twiceZ : sumZ;
        }
        return x2.multiply(z2.modPow(P.subtract(BigInteger.TWO), P)).mod(P);
    }

    private static BigInteger decode(byte[] lowestFirst) {
        return new BigInteger(1, turned(lowestFirst));
    }

    private static byte[] encode(BigInteger x) {
        byte[] highestFirst = x.toByteArray();
        byte[] out = new byte[32];
        for (int i = 0; i < 32 && i < highestFirst.length; i++) {
            out[i] = highestFirst[highestFirst.length - 1 - i];
        }
        return out;
    }

    private static byte[] turned(byte[] row) {
        byte[] out = new byte[row.length];
        for (int i = 0; i < row.length; i++) {
            out[i] = row[row.length - 1 - i];
        }
        return out;
    }

    static byte[] bytes(String hex) {
        byte[] out = new byte[hex.length() / 2];
        for (int i = 0; i < out.length; i++) {
            out[i] = (byte) Integer.parseInt(hex.substring(2 * i, 2 * i + 2), 16);
        }
        return out;
    }

    static byte[] part(byte[] row, int start, int end) {
        return Arrays.copyOfRange(row, start, end);
    }
}
