import java.nio.charset.StandardCharsets;

/** Published examples: FIPS 180-4 (NIST), RFC 4231, RFC 5869 appendix A and RFC 8448 section 3. */
public final class StandardVectorsTest {
    private static final String LONG_KEY = "aa".repeat(131);

    public static void main(String[] args) {
        hashes();
        keyedHashes();
        expandedKeys();
        labels();
        Check.end();
    }

    private static void hashes() {
        hash("", "e3b0c44298fc1c149afbf4c8996fb92427ae41e4649b934ca495991b7852b855",
                "38b060a751ac96384cd9327eb1b1e36a21fdb71114be07434c0cc7bf63f6e1da274edebfe76f65fbd51ad2f14898b95b",
                "cf83e1357eefb8bdf1542850d66d8007d620e4050b5715dc83f4a921d36ce9ce"
                        + "47d0d13c5d85f2b0ff8318d2877eec2f63b931bd47417a81a538327af927da3e");
        hash("abc", "ba7816bf8f01cfea414140de5dae2223b00361a396177a9cb410ff61f20015ad",
                "cb00753f45a35e8bb5a03d699ac65007272c32ab0eded1631a8b605a43ff5bed8086072ba1e7cc2358baeca134c825a7",
                "ddaf35a193617abacc417349ae20413112e6fa4e89a97ea20a9eeee64b55d39a"
                        + "2192992a274fc1a836ba3c23a3feebbd454d4423643ce80e2a9ac94fa54ca49f");
        hash("abcdbcdecdefdefgefghfghighijhijkijkljklmklmnlmnomnopnopq",
                "248d6a61d20638b8e5c026930c3e6039a33ce45964ff2167f6ecedd419db06c1",
                "3391fdddfc8dc7393707a65b1b4709397cf8b1d162af05abfe8f450de5f36bc6b0455a8520bc4e6f5fe95b1fe3c8452b",
                "204a8fc6dda82f0a0ced7beb8e08a41657c16ef468b228a8279be331a703c335"
                        + "96fd15c13b1b07f9aa1d3bea57789ca031ad85c7a71dd70354ec631238ca3445");
        hash("abcdefghbcdefghicdefghijdefghijkefghijklfghijklmghijklmn"
                        + "hijklmnoijklmnopjklmnopqklmnopqrlmnopqrsmnopqrstnopqrstu",
                "cf5b16a778af8380036ce59e7b0492370b249b11e8f07a51afac45037afee9d1",
                "09330c33f71147e83d192fc782cd1b4753111b173b3b05d22fa08086e3b0f712fcc7c71a557e2db966c3e9fa91746039",
                "8e959b75dae313da8cf4f72814fc143f8f7779c6eb9f7fa17299aeadb6889018"
                        + "501d289e4900f7e4331b99dec4b5433ac7d329eeb6dd26545e96e55b874be909");
    }

    private static void hash(String text, String... due) {
        for (int kind = 0; kind < 3; kind++) {
            DigestBox box = new DigestBox();
            Boxes.tape(box, text.getBytes(StandardCharsets.US_ASCII));
            box.more(kind);
            box.peek(kind);
            Check.same("hash of '" + text + "', kind " + kind, Boxes.resultHex(box), due[kind]);
        }
    }

    private static void keyedHashes() {
        keyedHash("0b".repeat(20), "Hi There", "b0344c61d8db38535ca8afceaf0bf12b881dc200c9833da726e9376c2e32cff7",
                "afd03944d84895626b0825f4ab46907f15f9dadbe4101ec682aa034c7cebc59cfaea9ea9076ede7f4af152e8b2fa9cb6",
                "87aa7cdea5ef619d4ff0b4241a1d6cb02379f4e2ce4ec2787ad0b30545e17cde"
                        + "daa833b7d6b8a702038b274eaea3f4e4be9d914eeb61f1702e696c203a126854");
        keyedHash("4a656665", "what do ya want for nothing?",
                "5bdcc146bf60754e6a042426089575c75a003f089d2739839dec58b964ec3843",
                "af45d2e376484031617f78d2b58a6b1b9c7ef464f5a01b47e42ec3736322445e8e2240ca5e69e2c78b3239ecfab21649",
                "164b7a7bfcf819e2e395fbe73b56e0a387bd64222e831fd610270cd7ea250554"
                        + "9758bf75c05a994a6d034f65f8f0e6fdcaeab1a34d4a6b4b636e070a38bce737");
        keyedHash(LONG_KEY, "Test Using Larger Than Block-Size Key - Hash Key First",
                "60e431591ee0b67f0d8a26aacbf5b77f8e0bc6213728c5140546040f0ee37f54",
                "4ece084485813e9088d2c63a041bc5b44f9ef1012a2b588f3cd11f05033ac4c60c2ef6ab4030fe8296248df163f44952",
                "80b24263c7c1a3ebb71493c1dd7be8b49b46d1f41b4aeec1121b013783f8f352"
                        + "6b56d037e05f2598bd0fd2215d6a1e5295e64f73f63f0aec8b915a985d786598");
        keyedHash(LONG_KEY, "This is a test using a larger than block-size key and a larger than block-size data. "
                        + "The key needs to be hashed before being used by the HMAC algorithm.",
                "9b09ffa71b942fcb27635fbcd5b0e944bfdc63644f0713938a7f51535c3a35e2",
                "6617178e941f020d351e2f254e8fd32c602420feb0b8fb9adccebb82461e99c5a678cc31e799176d3860e6110c46523e",
                "e37b6a775dc87dbaa4dfa9f96e5e3ffddebd71f8867289865df5a32d20cdc944"
                        + "b6022cac3c4982b10d5eeb55c3e4de15134676fb6de0446065c97440fa8c6a58");
    }

    private static void keyedHash(String keyHex, String text, String... due) {
        for (int kind = 0; kind < 3; kind++) {
            DigestBox box = Boxes.withKeyAndTape(Check.bytes(keyHex), text.getBytes(StandardCharsets.US_ASCII));
            box.hmac(kind);
            Check.same("hmac of '" + text + "', kind " + kind, Boxes.resultHex(box), due[kind]);
        }
    }

    private static void expandedKeys() {
        expanded("077709362c2e32df0ddc3f0dc47bba6390b6c73bb50f9c3122ec844ad7c2b3e5", "f0f1f2f3f4f5f6f7f8f9",
                "3cb25f25faacd57a90434f64d0362f2a2d2d0a90cf1a5a4c5db02d56ecc4c5bf34007208d5b887185865");
        expanded("06a6b88c5853361a06104c9ceb35b45cef760014904671014a193f40c15fc244",
                "b0b1b2b3b4b5b6b7b8b9babbbcbdbebfc0c1c2c3c4c5c6c7c8c9cacbcccdcecfd0d1d2d3d4d5d6d7"
                        + "d8d9dadbdcdddedfe0e1e2e3e4e5e6e7e8e9eaebecedeeeff0f1f2f3f4f5f6f7f8f9fafbfcfdfeff",
                "b11e398dc80327a1c8e7f78c596a49344f012eda2d4efad8a050cc4c19afa97c59045a99cac78272"
                        + "71cb41c65e590e09da3275600c2f09b8367793a9aca3db71cc30c58179ec3e87c14c01d5c1f3434f1d87");
        expanded("19ef24a32c717b167f33a91d6f648bdf96596776afdb6377ac434c1c293ccb04", "",
                "8da4e775a563c18f715f802a063c5a31b8a11f5c5ee1879ec3454e5f3c738d2d9d201395faa4b61a96c8");
    }

    private static void expanded(String keyHex, String infoHex, String due) {
        DigestBox box = Boxes.withKeyAndTape(Check.bytes(keyHex), Check.bytes(infoHex));
        box.expand(0, due.length() / 2);
        Check.same("expand of " + keyHex, Boxes.resultHex(box), due);
    }

    private static void labels() {
        label("33ad0a1c607ec03b09e6cd9893680ce210adf300aa1f2660e1b22e10f170f92a", "derived",
                "e3b0c44298fc1c149afbf4c8996fb92427ae41e4649b934ca495991b7852b855",
                "6f2615a108c702c5678f54fc9dbab69716c076189c48250cebeac3576c3611ba");
        label("b67b7d690cc16c4e75e54213cb2d37b4e9c912bcded9105d42befd59d391ad38", "key", "",
                "3fce516009c21727d0f2e4e86ee403bc");
        label("b67b7d690cc16c4e75e54213cb2d37b4e9c912bcded9105d42befd59d391ad38", "iv", "",
                "5d313eb2671276ee13000b30");
    }

    private static void label(String secretHex, String label, String contextHex, String due) {
        DigestBox box = Boxes.withKeyAndTape(Check.bytes(secretHex), label.getBytes(StandardCharsets.US_ASCII));
        Boxes.tape(box, Check.bytes(contextHex));
        box.expandLabel(0, due.length() / 2, label.length());
        Check.same("label " + label, Boxes.resultHex(box), due);
    }
}
