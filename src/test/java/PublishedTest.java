import java.math.BigInteger;
import java.security.GeneralSecurityException;
import java.security.KeyFactory;
import java.security.PrivateKey;
import java.security.PublicKey;
import java.security.spec.NamedParameterSpec;
import java.security.spec.XECPrivateKeySpec;
import java.security.spec.XECPublicKeySpec;
import java.util.Arrays;
import javax.crypto.KeyAgreement;

/** What the other tests measure by is itself measured: by numbers of RFC 7748 and by the Java library. */
public final class PublishedTest {
    private static final Check check = new Check("PublishedTest");

    public static void main(String[] args) throws GeneralSecurityException {
        dh("a546e36bf0527c9d3b16154b82465edd62144c0ac1fc5a18506a2244ba449ac4",
                "e6db6867583030db3594c1a424b15f7c726624ec26b3353b10a903a6d0ab1c4c",
                "c3da55379de9c6908e94ea4df28d084f32eccf03491c71f754b4075577a28552");
        dh("4b66e9d4d1b4673c5ad22691957d6af5c11b6421e0ea01d42ca4169e7918ba0d",
                "e5210f12786811d3f4b7959d0538ae2c31dbe7106fc03c3efc4cd549c715a493",
                "95cbde9476e8907d7aade45cb4b873f88b595a68799fa152e6f8f7647aac7957");
        againAndAgain();
        asTheLibraryDoes();
        check.end();
    }

    private static void dh(String secret, String point, String want) {
        byte[] got = Published.dh(Published.bytes(secret), Published.bytes(point));
        check.holds("DH of " + secret + " is " + want, Arrays.equals(got, Published.bytes(want)));
    }

    private static void againAndAgain() {
        byte[] k = Published.NINE;
        byte[] u = Published.NINE;
        for (int i = 1; i <= 1000; i++) {
            byte[] next = Published.dh(k, u);
            u = k;
            k = next;
            if (i == 1) {
                check.holds("the first of a thousand is as published", Arrays.equals(k,
                        Published.bytes("422c8e7a6227d7bca1350b3e2bb7279f7897b87bb6854b783c60e80311ae3079")));
            }
        }
        check.holds("the last of a thousand is as published", Arrays.equals(k,
                Published.bytes("684cf59ba83309552800ef566f2f4d3c1c3887c49360e3875f2eb94d99532c51")));
    }

    private static void asTheLibraryDoes() throws GeneralSecurityException {
        for (int v = 0; v < 20; v++) {
            byte[] secret = Published.secret(v, 0);
            byte[] point = Published.publicOf(Published.secret(v, 1));
            check.holds("DH is the library's, " + v,
                    Arrays.equals(Published.dh(secret, point), libraryDh(secret, point)));
        }
    }

    private static byte[] libraryDh(byte[] secret, byte[] point) throws GeneralSecurityException {
        byte[] highestFirst = new byte[32];
        for (int i = 0; i < 32; i++) {
            highestFirst[i] = point[31 - i];
        }
        KeyFactory factory = KeyFactory.getInstance("X25519");
        PrivateKey own = factory.generatePrivate(new XECPrivateKeySpec(NamedParameterSpec.X25519, secret));
        PublicKey other = factory.generatePublic(
                new XECPublicKeySpec(NamedParameterSpec.X25519, new BigInteger(1, highestFirst)));
        KeyAgreement agreement = KeyAgreement.getInstance("X25519");
        agreement.init(own);
        agreement.doPhase(other, true);
        return agreement.generateSecret();
    }
}
